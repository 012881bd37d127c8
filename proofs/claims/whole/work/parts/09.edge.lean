/-! EdgeList; the constructors of Belt and Item. -/
theorem va_up_id {g : Nat → Option va_E} {a : Nat} {e : va_E} (h : g a = some e) : va_up g a (some e) = g := by
  funext j
  by_cases hj : j = a
  · subst hj
    rw [va_up_self, h]
  · rw [va_up_ne _ _ hj]
theorem up_mid {g : Nat → Option va_E} {a q : Nat} {x e y : Option va_E} : va_up (va_up (va_up g a x) q e) a y = va_up (va_up g q e) a y := by
  funext j
  by_cases h1 : j = a <;> by_cases h2 : j = q <;> simp [va_up, h1, h2]
theorem up_none {g : Nat → Option va_E} {a q : Nat} {e : va_E} (h : va_up g a (some e) q = none) : q ≠ a ∧ g q = none := by
  by_cases hq : q = a
  · subst hq
    rw [va_up_self] at h
    cases h
  · rw [va_up_ne _ _ hq] at h
    exact ⟨hq, h⟩
abbrev edgeE (ar : Nat) (total taken : Int32) : va_E := .inr (1, [.ref ar, .int total, .int taken])
abbrev itemE (num : Int32) (len : Int64) (bt : Option Nat) (wt : Int32) (turn start : Int64) (ft et : Int32) : va_E := .inr (2, [.int num, .long len, va_rf bt, .int wt, .long turn, .long start, .int ft, .int et])
theorem row_ix (n j : Nat) : nI (n * 4) + nI j = nI (n * 4 + j) := nI_add _ _
def rowF (fr : Nat → Int32) (n : Nat) (t b i k : Int32) : Nat → Int32 := upd (upd (upd (upd fr (n * 4) t) (n * 4 + 1) b) (n * 4 + 2) i) (n * 4 + 3) k
def readF (fr : Nat → Int32) (total i what : Int32) : Int32 := if i < 0 then -1 else if 400 ≤ i then -1 else if i < total then (if what < 0 then -1 else if what < 4 then fr (i * 4 + what).toNatClampNeg else -1) else -1
theorem read_in {i what : Int32} (h1 : ¬ i < 0) (h2 : ¬ 400 ≤ i) (h3 : ¬ what < 0) (h4 : what < 4) : vp_in (i * 4 + what) 1600 := by
  obtain ⟨n, hn, rfl⟩ := nI_of h1
  obtain ⟨k, hk, rfl⟩ := nI_of h3
  have a1 : ¬ 400 ≤ n := fun h => h2 (nI_le (a := 400) h hn)
  have a2 : k < 4 := by
    rcases Nat.lt_or_ge k 4 with h | h
    · exact h
    · exact absurd h4 (nI_nlt (b := 4) h hk)
  rw [show nI n * 4 + nI k = nI (n * 4 + k) by rw [show (4 : Int32) = nI 4 from rfl, pk_mul, nI_add]]
  exact vp_in_nI (by omega) (by decide)
theorem ge400 {n : Nat} (hn : n < 2 ^ 31) (c : (400 : Int32) ≤ nI n) : 400 ≤ n := by
  rcases Nat.lt_or_ge n 400 with h | h
  · exact absurd c (nI_ge (a := n) (b := 400) h (by decide))
  · exact h
theorem lt400 {n : Nat} (hn : n < 2 ^ 31) (c : ¬ (400 : Int32) ≤ nI n) : n < 400 := by
  rcases Nat.lt_or_ge n 400 with h | h
  · exact h
  · exact absurd (nI_le (a := 400) (b := n) h hn) c
section EDGE
variable {ar a n : Nat} {total taken : Int32} {fr : Nat → Int32}
set_option maxHeartbeats 4000000 in
set_option maxRecDepth 100000 in
theorem c_E_takeNew {l : Launch} {D : va_G} {dA : Nat → ClassId} {g : Nat → Option va_E}  (hE : g a = some (edgeE ar total taken)) : CtI l D classes (tyL dA) y_E_takeNew b_E_takeNew 2 (some .int) rm_E_takeNew [.ref a] g (fun r g' => g' = va_up g a (some (edgeE ar total total)) ∧ r = total - taken) := by
  refine CtI.of (by decide) (Nat.le_of_ble_eq_true rfl) ?_
  intro p e s m below meth c X hr hlk hnm
  refine go_aload_n X (z := 0) d_E_takeNew_0 rfl rfl ?_
  refine go_get X u_E rfl 1 (by decide) gm_fl_E_15 rfl d_E_takeNew_1 hE rfl ?_
  refine go_aload_n X (z := 0) d_E_takeNew_4 rfl rfl ?_
  refine go_get X u_E rfl 2 (by decide) gm_fl_E_19 rfl d_E_takeNew_5 hE rfl ?_
  refine go_isub X d_E_takeNew_8 ?_
  refine go_topi (fun x1 ex1 => ?_)
  refine go_istore_n X (lv' := [(1, .int x1), (0, .ref a)]) d_E_takeNew_9 rfl (by decide) rfl ?_
  refine go_aload_n X (z := 1) d_E_takeNew_10 rfl rfl ?_
  refine go_aload_n X (z := 1) d_E_takeNew_11 rfl rfl ?_
  refine go_get X u_E rfl 1 (by decide) gm_fl_E_15 rfl d_E_takeNew_12 hE rfl ?_
  refine go_put X u_E rfl 2 (by decide) gm_fl_E_19 rfl t_E t_E_ok n_E rfl rfl rfl d_E_takeNew_15 hE (Nat.le_of_ble_eq_true rfl) ?_
  refine go_gen (fun g2 eg2 => ?_)
  have eg2 : g2 = va_up g a (some (.inr (1, [.ref ar, .int total, .int total]))) := eg2
  have h3 : g2 a = some (.inr (1, [.ref ar, .int total, .int total])) := by rw [eg2]; exact va_up_self _ _ _
  refine go_iload_n X (z := 0) d_E_takeNew_18 rfl rfl ?_
  exact go_retI X hr hlk d_E_takeNew_19 ⟨eg2, ex1⟩
set_option maxHeartbeats 4000000 in
set_option maxRecDepth 100000 in
theorem c_E_read {l : Launch} {D : va_G} {dA : Nat → ClassId} {g : Nat → Option va_E}  (hE : g a = some (edgeE ar total taken)) (hR : g ar = some (intE dA 1600 fr)) (i what : Int32) : CtI l D classes (tyL dA) y_E_read b_E_read 3 (some .int) rm_E_read [.ref a, .int i, .int what] g (fun r g' => g = g' ∧ r = readF fr total i what) := by
  refine CtI.of (by decide) (Nat.le_of_ble_eq_true rfl) ?_
  intro p e s m below meth c X hr hlk hnm
  refine go_iload_n X (z := 1) d_E_read_0 rfl rfl ?_
  refine go_if_lt X (tgt := 19) d_E_read_1 rfl (fun c1 => ?_) (fun c1 => ?_)
  · refine go_iconst X (v := (-1)) d_E_read_19 (by decide) ?_
    exact go_retI X hr hlk d_E_read_20 ⟨rfl, by subst_vars; simp only [readF, if_pos c1]⟩
  · refine go_iload_n X (z := 1) d_E_read_4 rfl rfl ?_
    refine go_sipush X (v := 400) d_E_read_5 (by decide) ?_
    refine go_icmp_ge X (tgt := 19) d_E_read_8 rfl (fun c2 => ?_) (fun c2 => ?_)
    · refine go_iconst X (v := (-1)) d_E_read_19 (by decide) ?_
      exact go_retI X hr hlk d_E_read_20 ⟨rfl, by subst_vars; simp only [readF, if_neg c1, if_pos c2]⟩
    · refine go_iload_n X (z := 1) d_E_read_11 rfl rfl ?_
      refine go_aload_n X (z := 0) d_E_read_12 rfl rfl ?_
      refine go_get X u_E rfl 1 (by decide) gm_fl_E_15 rfl d_E_read_13 hE rfl ?_
      refine go_icmp_lt X (tgt := 21) d_E_read_16 rfl (fun c3 => ?_) (fun c3 => ?_)
      · refine go_iload_n X (z := 2) d_E_read_21 rfl rfl ?_
        refine go_if_lt X (tgt := 30) d_E_read_22 rfl (fun c4 => ?_) (fun c4 => ?_)
        · refine go_iconst X (v := (-1)) d_E_read_30 (by decide) ?_
          exact go_retI X hr hlk d_E_read_31 ⟨rfl, by subst_vars; simp only [readF, if_neg c1, if_neg c2, if_pos c3, if_pos c4]⟩
        · refine go_iload_n X (z := 2) d_E_read_25 rfl rfl ?_
          refine go_iconst X (v := 4) d_E_read_26 (by decide) ?_
          refine go_icmp_lt X (tgt := 32) d_E_read_27 rfl (fun c5 => ?_) (fun c5 => ?_)
          · refine go_aload_n X (z := 0) d_E_read_32 rfl rfl ?_
            refine go_get X u_E rfl 0 (by decide) gm_fl_E_11 rfl d_E_read_33 hE rfl ?_
            refine go_iload_n X (z := 1) d_E_read_36 rfl rfl ?_
            refine go_iconst X (v := 4) d_E_read_37 (by decide) ?_
            refine go_imul X d_E_read_38 ?_
            refine go_iload_n X (z := 2) d_E_read_39 rfl rfl ?_
            refine go_iadd X d_E_read_40 ?_
            refine go_iald X 0 rfl d_E_read_41 hR (read_in c1 c2 c4 c5) ?_
            exact go_retI X hr hlk d_E_read_42 ⟨rfl, by subst_vars; simp only [readF, if_neg c1, if_neg c2, if_pos c3, if_neg c4, if_pos c5]⟩
          · refine go_iconst X (v := (-1)) d_E_read_30 (by decide) ?_
            exact go_retI X hr hlk d_E_read_31 ⟨rfl, by subst_vars; simp only [readF, if_neg c1, if_neg c2, if_pos c3, if_neg c4, if_neg c5]⟩
      · refine go_iconst X (v := (-1)) d_E_read_19 (by decide) ?_
        exact go_retI X hr hlk d_E_read_20 ⟨rfl, by subst_vars; simp only [readF, if_neg c1, if_neg c2, if_neg c3]⟩
set_option maxHeartbeats 4000000 in
set_option maxRecDepth 100000 in
theorem c_E_add {l : Launch} {D : va_G} {dA : Nat → ClassId} {g : Nat → Option va_E}  (hE : g a = some (edgeE ar (nI n) taken)) (hR : g ar = some (intE dA 1600 fr)) (hn : n < 2 ^ 31) (t : Int64) (b i k : Int32) : CtV l D classes (tyL dA) y_E_add b_E_add 7 none rm_E_add [.ref a, .long t, .int b, .int i, .int k] g (fun g' => g' = va_up (va_up g ar (some (intE dA 1600 (if 400 ≤ n then fr else rowF fr n t.toInt32 b i k)))) a (some (edgeE ar (nI (n + 1)) taken))) := by
  refine CtV.of (by decide) (Nat.le_of_ble_eq_true rfl) ?_
  intro p e s m below meth c X hr hlk hnm
  refine go_aload_n X (z := 0) d_E_add_0 rfl rfl ?_
  refine go_get X u_E rfl 1 (by decide) gm_fl_E_15 rfl d_E_add_1 hE rfl ?_
  refine go_sipush X (v := 400) d_E_add_4 (by decide) ?_
  refine go_icmp_ge X (tgt := 59) d_E_add_7 rfl (fun c1 => ?_) (fun c1 => ?_)
  · refine go_aload_n X (z := 0) d_E_add_59 rfl rfl ?_
    refine go_dup X d_E_add_60 rfl ?_
    refine go_get X u_E rfl 1 (by decide) gm_fl_E_15 rfl d_E_add_61 hE rfl ?_
    refine go_iconst X (v := 1) d_E_add_64 (by decide) ?_
    refine go_iadd X d_E_add_65 ?_
    refine go_topi (fun x2 ex2 => ?_)
    refine go_put X u_E rfl 1 (by decide) gm_fl_E_15 rfl t_E t_E_ok n_E rfl rfl rfl d_E_add_66 hE (Nat.le_of_ble_eq_true rfl) ?_
    refine go_gen (fun g3 eg3 => ?_)
    have eg3 : g3 = va_up g a (some (.inr (1, [.ref ar, .int x2, .int taken]))) := eg3
    have h4 : g3 ar = some (.inl (dA 0, 1600, .inl fr)) := by rw [eg3, va_up_ne _ _ (ne_kind2 hR hE)]; exact hR
    have h5 : g3 a = some (.inr (1, [.ref ar, .int x2, .int taken])) := by rw [eg3]; exact va_up_self _ _ _
    exact go_retV X hr hlk d_E_add_69 (by rw [eg3, if_pos (ge400 hn c1), va_up_id hR, ex2, nI_1])
  · have hlt : n < 400 := lt400 hn c1
    refine go_aload_n X (z := 0) d_E_add_10 rfl rfl ?_
    refine go_get X u_E rfl 1 (by decide) gm_fl_E_15 rfl d_E_add_11 hE rfl ?_
    refine go_iconst X (v := 4) d_E_add_14 (by decide) ?_
    refine go_imul X d_E_add_15 ?_
    refine go_topi (fun x6 ex6 => ?_)
    refine go_istore X (lv' := [(6, .int x6), (0, .ref a), (1, .long t), (3, .int b), (4, .int i), (5, .int k)]) d_E_add_16 (by decide) rfl ?_
    have q1 : x6 = nI (n * 4) := by rw [ex6]; exact pk_mul n 4
    subst q1
    refine go_aload_n X (z := 1) d_E_add_18 rfl rfl ?_
    refine go_get X u_E rfl 0 (by decide) gm_fl_E_11 rfl d_E_add_19 hE rfl ?_
    refine go_iload X (z := 0) d_E_add_22 rfl ?_
    refine go_lload_n X (z := 2) d_E_add_24 rfl rfl ?_
    refine go_l2i X d_E_add_25 rfl ?_
    refine go_iast X 0 rfl d_E_add_26 hR (vp_in_nI (by omega) (by decide)) ?_
    refine go_gen (fun g7 eg7 => ?_)
    have eg7 : g7 = va_up g ar (some (.inl (dA 0, 1600, .inl (upd fr (n * 4) t.toInt32)))) := by rw [eg7, nI_clamp (show n * 4 < 2 ^ 31 by omega)]
    have h8 : g7 a = some (.inr (1, [.ref ar, .int ((nI n)), .int taken])) := by rw [eg7, va_up_ne _ _ (ne_kind1 hE hR)]; exact hE
    have h9 : g7 ar = some (.inl (dA 0, 1600, .inl (upd fr (n * 4) t.toInt32))) := by rw [eg7]; exact va_up_self _ _ _
    refine go_aload_n X (z := 1) d_E_add_27 rfl rfl ?_
    refine go_get X u_E rfl 0 (by decide) gm_fl_E_11 rfl d_E_add_28 h8 rfl ?_
    refine go_iload X (z := 0) d_E_add_31 rfl ?_
    refine go_iconst X (v := 1) d_E_add_33 (by decide) ?_
    refine go_iadd X d_E_add_34 ?_
    refine go_iload_n X (z := 3) d_E_add_35 rfl rfl ?_
    refine go_iast X 0 rfl d_E_add_36 h9 (by rw [show nI (n * 4) + 1 = nI (n * 4 + 1) from row_ix n 1]; exact vp_in_nI (by omega) (by decide)) ?_
    refine go_gen (fun g10 eg10 => ?_)
    have eg10 : g10 = va_up g7 ar (some (.inl (dA 0, 1600, .inl (upd (upd fr (n * 4) t.toInt32) (n * 4 + 1) b)))) := by rw [eg10, show nI (n * 4) + 1 = nI (n * 4 + 1) from row_ix n 1, nI_clamp (show n * 4 + 1 < 2 ^ 31 by omega)]
    have h11 : g10 a = some (.inr (1, [.ref ar, .int ((nI n)), .int taken])) := by rw [eg10, va_up_ne _ _ (ne_kind1 h8 h9)]; exact h8
    have h12 : g10 ar = some (.inl (dA 0, 1600, .inl (upd (upd fr (n * 4) t.toInt32) (n * 4 + 1) b))) := by rw [eg10]; exact va_up_self _ _ _
    refine go_aload_n X (z := 1) d_E_add_37 rfl rfl ?_
    refine go_get X u_E rfl 0 (by decide) gm_fl_E_11 rfl d_E_add_38 h11 rfl ?_
    refine go_iload X (z := 0) d_E_add_41 rfl ?_
    refine go_iconst X (v := 2) d_E_add_43 (by decide) ?_
    refine go_iadd X d_E_add_44 ?_
    refine go_iload X (z := 4) d_E_add_45 rfl ?_
    refine go_iast X 0 rfl d_E_add_47 h12 (by rw [show nI (n * 4) + 2 = nI (n * 4 + 2) from row_ix n 2]; exact vp_in_nI (by omega) (by decide)) ?_
    refine go_gen (fun g13 eg13 => ?_)
    have eg13 : g13 = va_up g10 ar (some (.inl (dA 0, 1600, .inl (upd (upd (upd fr (n * 4) t.toInt32) (n * 4 + 1) b) (n * 4 + 2) i)))) := by rw [eg13, show nI (n * 4) + 2 = nI (n * 4 + 2) from row_ix n 2, nI_clamp (show n * 4 + 2 < 2 ^ 31 by omega)]
    have h14 : g13 a = some (.inr (1, [.ref ar, .int ((nI n)), .int taken])) := by rw [eg13, va_up_ne _ _ (ne_kind1 h11 h12)]; exact h11
    have h15 : g13 ar = some (.inl (dA 0, 1600, .inl (upd (upd (upd fr (n * 4) t.toInt32) (n * 4 + 1) b) (n * 4 + 2) i))) := by rw [eg13]; exact va_up_self _ _ _
    refine go_aload_n X (z := 1) d_E_add_48 rfl rfl ?_
    refine go_get X u_E rfl 0 (by decide) gm_fl_E_11 rfl d_E_add_49 h14 rfl ?_
    refine go_iload X (z := 0) d_E_add_52 rfl ?_
    refine go_iconst X (v := 3) d_E_add_54 (by decide) ?_
    refine go_iadd X d_E_add_55 ?_
    refine go_iload X (z := 5) d_E_add_56 rfl ?_
    refine go_iast X 0 rfl d_E_add_58 h15 (by rw [show nI (n * 4) + 3 = nI (n * 4 + 3) from row_ix n 3]; exact vp_in_nI (by omega) (by decide)) ?_
    refine go_gen (fun g16 eg16 => ?_)
    have eg16 : g16 = va_up g13 ar (some (.inl (dA 0, 1600, .inl (upd (upd (upd (upd fr (n * 4) t.toInt32) (n * 4 + 1) b) (n * 4 + 2) i) (n * 4 + 3) k)))) := by rw [eg16, show nI (n * 4) + 3 = nI (n * 4 + 3) from row_ix n 3, nI_clamp (show n * 4 + 3 < 2 ^ 31 by omega)]
    have h17 : g16 a = some (.inr (1, [.ref ar, .int ((nI n)), .int taken])) := by rw [eg16, va_up_ne _ _ (ne_kind1 h14 h15)]; exact h14
    have h18 : g16 ar = some (.inl (dA 0, 1600, .inl (upd (upd (upd (upd fr (n * 4) t.toInt32) (n * 4 + 1) b) (n * 4 + 2) i) (n * 4 + 3) k))) := by rw [eg16]; exact va_up_self _ _ _
    refine go_aload_n X (z := 1) d_E_add_59 rfl rfl ?_
    refine go_dup X d_E_add_60 rfl ?_
    refine go_get X u_E rfl 1 (by decide) gm_fl_E_15 rfl d_E_add_61 h17 rfl ?_
    refine go_iconst X (v := 1) d_E_add_64 (by decide) ?_
    refine go_iadd X d_E_add_65 ?_
    refine go_topi (fun x19 ex19 => ?_)
    refine go_put X u_E rfl 1 (by decide) gm_fl_E_15 rfl t_E t_E_ok n_E rfl rfl rfl d_E_add_66 h17 (Nat.le_of_ble_eq_true rfl) ?_
    refine go_gen (fun g20 eg20 => ?_)
    have eg20 : g20 = va_up g16 a (some (.inr (1, [.ref ar, .int x19, .int taken]))) := eg20
    have h21 : g20 ar = some (.inl (dA 0, 1600, .inl (upd (upd (upd (upd fr (n * 4) t.toInt32) (n * 4 + 1) b) (n * 4 + 2) i) (n * 4 + 3) k))) := by rw [eg20, va_up_ne _ _ (ne_kind2 h18 h17)]; exact h18
    have h22 : g20 a = some (.inr (1, [.ref ar, .int x19, .int taken])) := by rw [eg20]; exact va_up_self _ _ _
    exact go_retV X hr hlk d_E_add_69 (by rw [eg20, eg16, eg13, eg10, eg7, if_neg (fun h => c1 (nI_le (a := 400) (b := n) h hn)), bx_uu, bx_uu, bx_uu, ex19, nI_1]; subst_vars; rfl)
set_option maxHeartbeats 4000000 in
set_option maxRecDepth 100000 in
theorem c_E_init {l : Launch} {D : va_G} {dA : Nat → ClassId} {g : Nat → Option va_E}  (hE : g a = some (.inr (1, [.null, .int 0, .int 0]))) : CtV l D classes (tyL dA) y_E_init b_E_init 1 none rm_E_init [.ref a] g (fun g' => ∃ ar, g ar = none ∧ g' = va_up (va_up g ar (some (intE dA 1600 (fun _ => 0)))) a (some (edgeE ar 0 0))) := by
  refine CtV.of (by decide) (Nat.le_of_ble_eq_true rfl) ?_
  intro p e s m below meth c X hr hlk hnm
  refine go_aload_n X (z := 0) d_E_init_0 rfl rfl ?_
  refine go_objInit X gm_ml_E_3 gm_im_O_init gm_code_O_init d_E_init_1 (by decide) (Nat.le_of_ble_eq_true rfl) ?_
  refine go_aload_n X (z := 0) d_E_init_4 rfl rfl ?_
  refine go_sipush X (v := 1600) d_E_init_5 (by decide) ?_
  refine go_newa X 0 (atype := .int) (N := 1600) (a0 := (1600, .inl (fun _ => 0))) rfl rfl (fun _ h => by cases h) gm_ac_int (fun _ => rfl) (by decide) (by decide) (by decide) (by decide) (by decide) d_E_init_8 (fun q1 hq1 => ?_)
  refine go_gen (fun g2 eg2 => ?_)
  have eg2 : g2 = va_up g q1 (some (.inl (dA 0, 1600, .inl (fun _ => 0)))) := eg2
  have h3 : g2 a = some (.inr (1, [.null, .int 0, .int 0])) := by rw [eg2, va_up_ne _ _ (ne_fresh hE hq1)]; exact hE
  have h4 : g2 q1 = some (.inl (dA 0, 1600, .inl (fun _ => 0))) := by rw [eg2]; exact va_up_self _ _ _
  refine go_putF X u_E rfl 0 (by decide) gm_fl_E_11 rfl t_E t_E_ok n_E rfl hnm rfl rfl rfl d_E_init_10 h3 (Nat.le_of_ble_eq_true rfl) ?_
  refine go_gen (fun g5 eg5 => ?_)
  have eg5 : g5 = va_up g2 a (some (.inr (1, [.ref q1, .int 0, .int 0]))) := eg5
  have h6 : g5 q1 = some (.inl (dA 0, 1600, .inl (fun _ => 0))) := by rw [eg5, va_up_ne _ _ (ne_kind2 h4 h3)]; exact h4
  have h7 : g5 a = some (.inr (1, [.ref q1, .int 0, .int 0])) := by rw [eg5]; exact va_up_self _ _ _
  refine go_aload_n X (z := 0) d_E_init_13 rfl rfl ?_
  refine go_iconst X (v := 0) d_E_init_14 (by decide) ?_
  refine go_put X u_E rfl 1 (by decide) gm_fl_E_15 rfl t_E t_E_ok n_E rfl rfl rfl d_E_init_15 h7 (Nat.le_of_ble_eq_true rfl) ?_
  refine go_gen (fun g8 eg8 => ?_)
  have eg8 : g8 = va_up g5 a (some (.inr (1, [.ref q1, .int 0, .int 0]))) := eg8
  have h9 : g8 q1 = some (.inl (dA 0, 1600, .inl (fun _ => 0))) := by rw [eg8, va_up_ne _ _ (ne_kind2 h6 h7)]; exact h6
  have h10 : g8 a = some (.inr (1, [.ref q1, .int 0, .int 0])) := by rw [eg8]; exact va_up_self _ _ _
  refine go_aload_n X (z := 0) d_E_init_18 rfl rfl ?_
  refine go_iconst X (v := 0) d_E_init_19 (by decide) ?_
  refine go_put X u_E rfl 2 (by decide) gm_fl_E_19 rfl t_E t_E_ok n_E rfl rfl rfl d_E_init_20 h10 (Nat.le_of_ble_eq_true rfl) ?_
  refine go_gen (fun g11 eg11 => ?_)
  have eg11 : g11 = va_up g8 a (some (.inr (1, [.ref q1, .int 0, .int 0]))) := eg11
  have h12 : g11 q1 = some (.inl (dA 0, 1600, .inl (fun _ => 0))) := by rw [eg11, va_up_ne _ _ (ne_kind2 h9 h10)]; exact h9
  have h13 : g11 a = some (.inr (1, [.ref q1, .int 0, .int 0])) := by rw [eg11]; exact va_up_self _ _ _
  exact go_retV X hr hlk d_E_init_23 ⟨q1, hq1, by rw [eg11, eg8, eg5, eg2, bx_uu, bx_uu]⟩
end EDGE
set_option maxHeartbeats 4000000 in
set_option maxRecDepth 100000 in
theorem c_I_init {l : Launch} {D : va_G} {dA : Nat → ClassId} {g : Nat → Option va_E}  {a b : Nat} {num : Int32} {len at0 : Int64} (hI : g a = some (.inr (2, [.int 0, .long 0, .null, .int 0, .long 0, .long 0, .int 0, .int 0]))) : CtV l D classes (tyL dA) y_I_init b_I_init 7 none rm_I_init [.ref a, .int num, .long len, .ref b, .long at0] g (fun g' => g' = va_up g a (some (itemE num len (some b) 1 at0 0 0 0))) := by
  refine CtV.of (by decide) (Nat.le_of_ble_eq_true rfl) ?_
  intro p e s m below meth c X hr hlk hnm
  refine go_aload_n X (z := 0) d_I_init_0 rfl rfl ?_
  refine go_objInit X gm_ml_I_3 gm_im_O_init gm_code_O_init d_I_init_1 (by decide) (Nat.le_of_ble_eq_true rfl) ?_
  refine go_aload_n X (z := 0) d_I_init_4 rfl rfl ?_
  refine go_iconst X (v := 1) d_I_init_5 (by decide) ?_
  refine go_put X u_I rfl 3 (by decide) gm_fl_I_9 rfl t_I t_I_ok n_I rfl rfl rfl d_I_init_6 hI (Nat.le_of_ble_eq_true rfl) ?_
  refine go_gen (fun g1 eg1 => ?_)
  have eg1 : g1 = va_up g a (some (.inr (2, [.int 0, .long 0, .null, .int 1, .long 0, .long 0, .int 0, .int 0]))) := eg1
  have h2 : g1 a = some (.inr (2, [.int 0, .long 0, .null, .int 1, .long 0, .long 0, .int 0, .int 0])) := by rw [eg1]; exact va_up_self _ _ _
  refine go_aload_n X (z := 0) d_I_init_9 rfl rfl ?_
  refine go_lconst X (v := 0) d_I_init_10 (by decide) ?_
  refine go_put X u_I rfl 5 (by decide) gm_fl_I_15 rfl t_I t_I_ok n_I rfl rfl rfl d_I_init_11 h2 (Nat.le_of_ble_eq_true rfl) ?_
  refine go_gen (fun g3 eg3 => ?_)
  have eg3 : g3 = va_up g1 a (some (.inr (2, [.int 0, .long 0, .null, .int 1, .long 0, .long 0, .int 0, .int 0]))) := eg3
  have h4 : g3 a = some (.inr (2, [.int 0, .long 0, .null, .int 1, .long 0, .long 0, .int 0, .int 0])) := by rw [eg3]; exact va_up_self _ _ _
  refine go_aload_n X (z := 0) d_I_init_14 rfl rfl ?_
  refine go_iconst X (v := 0) d_I_init_15 (by decide) ?_
  refine go_put X u_I rfl 6 (by decide) gm_fl_I_19 rfl t_I t_I_ok n_I rfl rfl rfl d_I_init_16 h4 (Nat.le_of_ble_eq_true rfl) ?_
  refine go_gen (fun g5 eg5 => ?_)
  have eg5 : g5 = va_up g3 a (some (.inr (2, [.int 0, .long 0, .null, .int 1, .long 0, .long 0, .int 0, .int 0]))) := eg5
  have h6 : g5 a = some (.inr (2, [.int 0, .long 0, .null, .int 1, .long 0, .long 0, .int 0, .int 0])) := by rw [eg5]; exact va_up_self _ _ _
  refine go_aload_n X (z := 0) d_I_init_19 rfl rfl ?_
  refine go_iconst X (v := 0) d_I_init_20 (by decide) ?_
  refine go_put X u_I rfl 7 (by decide) gm_fl_I_22 rfl t_I t_I_ok n_I rfl rfl rfl d_I_init_21 h6 (Nat.le_of_ble_eq_true rfl) ?_
  refine go_gen (fun g7 eg7 => ?_)
  have eg7 : g7 = va_up g5 a (some (.inr (2, [.int 0, .long 0, .null, .int 1, .long 0, .long 0, .int 0, .int 0]))) := eg7
  have h8 : g7 a = some (.inr (2, [.int 0, .long 0, .null, .int 1, .long 0, .long 0, .int 0, .int 0])) := by rw [eg7]; exact va_up_self _ _ _
  refine go_aload_n X (z := 0) d_I_init_24 rfl rfl ?_
  refine go_iload_n X (z := 1) d_I_init_25 rfl rfl ?_
  refine go_putF X u_I rfl 0 (by decide) gm_fl_I_25 rfl t_I t_I_ok n_I rfl hnm rfl rfl rfl d_I_init_26 h8 (Nat.le_of_ble_eq_true rfl) ?_
  refine go_gen (fun g9 eg9 => ?_)
  have eg9 : g9 = va_up g7 a (some (.inr (2, [.int num, .long 0, .null, .int 1, .long 0, .long 0, .int 0, .int 0]))) := eg9
  have h10 : g9 a = some (.inr (2, [.int num, .long 0, .null, .int 1, .long 0, .long 0, .int 0, .int 0])) := by rw [eg9]; exact va_up_self _ _ _
  refine go_aload_n X (z := 0) d_I_init_29 rfl rfl ?_
  refine go_lload_n X (z := 2) d_I_init_30 rfl rfl ?_
  refine go_putF X u_I rfl 1 (by decide) gm_fl_I_29 rfl t_I t_I_ok n_I rfl hnm rfl rfl rfl d_I_init_31 h10 (Nat.le_of_ble_eq_true rfl) ?_
  refine go_gen (fun g11 eg11 => ?_)
  have eg11 : g11 = va_up g9 a (some (.inr (2, [.int num, .long len, .null, .int 1, .long 0, .long 0, .int 0, .int 0]))) := eg11
  have h12 : g11 a = some (.inr (2, [.int num, .long len, .null, .int 1, .long 0, .long 0, .int 0, .int 0])) := by rw [eg11]; exact va_up_self _ _ _
  refine go_aload_n X (z := 0) d_I_init_34 rfl rfl ?_
  refine go_aload X (z := 3) d_I_init_35 rfl ?_
  refine go_put X u_I rfl 2 (by decide) gm_fl_I_32 rfl t_I t_I_ok n_I rfl rfl rfl d_I_init_37 h12 (Nat.le_of_ble_eq_true rfl) ?_
  refine go_gen (fun g13 eg13 => ?_)
  have eg13 : g13 = va_up g11 a (some (.inr (2, [.int num, .long len, .ref b, .int 1, .long 0, .long 0, .int 0, .int 0]))) := eg13
  have h14 : g13 a = some (.inr (2, [.int num, .long len, .ref b, .int 1, .long 0, .long 0, .int 0, .int 0])) := by rw [eg13]; exact va_up_self _ _ _
  refine go_aload_n X (z := 0) d_I_init_40 rfl rfl ?_
  refine go_lload X (z := 4) d_I_init_41 rfl ?_
  refine go_put X u_I rfl 4 (by decide) gm_fl_I_36 rfl t_I t_I_ok n_I rfl rfl rfl d_I_init_43 h14 (Nat.le_of_ble_eq_true rfl) ?_
  refine go_gen (fun g15 eg15 => ?_)
  have eg15 : g15 = va_up g13 a (some (.inr (2, [.int num, .long len, .ref b, .int 1, .long at0, .long 0, .int 0, .int 0]))) := eg15
  have h16 : g15 a = some (.inr (2, [.int num, .long len, .ref b, .int 1, .long at0, .long 0, .int 0, .int 0])) := by rw [eg15]; exact va_up_self _ _ _
  exact go_retV X hr hlk d_I_init_46 (by rw [eg15, eg13, eg11, eg9, eg7, eg5, eg3, eg1, bx_uu, bx_uu, bx_uu, bx_uu, bx_uu, bx_uu, bx_uu]; rfl)
set_option maxHeartbeats 4000000 in
set_option maxRecDepth 100000 in
theorem c_B_init {l : Launch} {D : va_G} {dA : Nat → ClassId} {g : Nat → Option va_E}  {a : Nat} {num : Int32} {len spd : Int64} (hB : g a = some (.inr (0, [.int 0, .long 0, .long 0, .long 0, .null, .int 0, .int 0, .long 0, .int 0, .long 0, .null, .null, .null]))) : CtV l D classes (tyL dA) y_B_init b_B_init 6 none rm_B_init [.ref a, .int num, .long len, .long spd] g (fun g' => ∃ ag ap aw, g ag = none ∧ g ap = none ∧ g aw = none ∧ ag ≠ ap ∧ ag ≠ aw ∧ ap ≠ aw ∧ g' = va_up (va_up (va_up (va_up g ag (some (intE dA 8 (fun _ => 0)))) ap (some (lonE dA 8 (fun _ => 0)))) aw (some (lonE dA 8 (fun _ => 0)))) a (some (beltE num len spd (len / 2) none 1 0 0 8 0 ag ap aw))) := by
  refine CtV.of (by decide) (Nat.le_of_ble_eq_true rfl) ?_
  intro p e s m below meth c X hr hlk hnm
  refine go_aload_n X (z := 0) d_B_init_0 rfl rfl ?_
  refine go_objInit X gm_ml_B_3 gm_im_O_init gm_code_O_init d_B_init_1 (by decide) (Nat.le_of_ble_eq_true rfl) ?_
  refine go_aload_n X (z := 0) d_B_init_4 rfl rfl ?_
  refine go_null X d_B_init_5 ?_
  refine go_put X u_B rfl 4 (by decide) gm_fl_B_9 rfl t_B t_B_ok n_B rfl rfl rfl d_B_init_6 hB (Nat.le_of_ble_eq_true rfl) ?_
  refine go_gen (fun g1 eg1 => ?_)
  have eg1 : g1 = va_up g a (some (.inr (0, [.int 0, .long 0, .long 0, .long 0, .null, .int 0, .int 0, .long 0, .int 0, .long 0, .null, .null, .null]))) := eg1
  have h2 : g1 a = some (.inr (0, [.int 0, .long 0, .long 0, .long 0, .null, .int 0, .int 0, .long 0, .int 0, .long 0, .null, .null, .null])) := by rw [eg1]; exact va_up_self _ _ _
  refine go_aload_n X (z := 0) d_B_init_9 rfl rfl ?_
  refine go_iconst X (v := 1) d_B_init_10 (by decide) ?_
  refine go_put X u_B rfl 5 (by decide) gm_fl_B_15 rfl t_B t_B_ok n_B rfl rfl rfl d_B_init_11 h2 (Nat.le_of_ble_eq_true rfl) ?_
  refine go_gen (fun g3 eg3 => ?_)
  have eg3 : g3 = va_up g1 a (some (.inr (0, [.int 0, .long 0, .long 0, .long 0, .null, .int 1, .int 0, .long 0, .int 0, .long 0, .null, .null, .null]))) := eg3
  have h4 : g3 a = some (.inr (0, [.int 0, .long 0, .long 0, .long 0, .null, .int 1, .int 0, .long 0, .int 0, .long 0, .null, .null, .null])) := by rw [eg3]; exact va_up_self _ _ _
  refine go_aload_n X (z := 0) d_B_init_14 rfl rfl ?_
  refine go_iconst X (v := 0) d_B_init_15 (by decide) ?_
  refine go_put X u_B rfl 6 (by decide) gm_fl_B_19 rfl t_B t_B_ok n_B rfl rfl rfl d_B_init_16 h4 (Nat.le_of_ble_eq_true rfl) ?_
  refine go_gen (fun g5 eg5 => ?_)
  have eg5 : g5 = va_up g3 a (some (.inr (0, [.int 0, .long 0, .long 0, .long 0, .null, .int 1, .int 0, .long 0, .int 0, .long 0, .null, .null, .null]))) := eg5
  have h6 : g5 a = some (.inr (0, [.int 0, .long 0, .long 0, .long 0, .null, .int 1, .int 0, .long 0, .int 0, .long 0, .null, .null, .null])) := by rw [eg5]; exact va_up_self _ _ _
  refine go_aload_n X (z := 0) d_B_init_19 rfl rfl ?_
  refine go_lconst X (v := 0) d_B_init_20 (by decide) ?_
  refine go_put X u_B rfl 7 (by decide) gm_fl_B_23 rfl t_B t_B_ok n_B rfl rfl rfl d_B_init_21 h6 (Nat.le_of_ble_eq_true rfl) ?_
  refine go_gen (fun g7 eg7 => ?_)
  have eg7 : g7 = va_up g5 a (some (.inr (0, [.int 0, .long 0, .long 0, .long 0, .null, .int 1, .int 0, .long 0, .int 0, .long 0, .null, .null, .null]))) := eg7
  have h8 : g7 a = some (.inr (0, [.int 0, .long 0, .long 0, .long 0, .null, .int 1, .int 0, .long 0, .int 0, .long 0, .null, .null, .null])) := by rw [eg7]; exact va_up_self _ _ _
  refine go_aload_n X (z := 0) d_B_init_24 rfl rfl ?_
  refine go_bipush X (v := 8) d_B_init_25 (by decide) ?_
  refine go_put X u_B rfl 8 (by decide) gm_fl_B_27 rfl t_B t_B_ok n_B rfl rfl rfl d_B_init_27 h8 (Nat.le_of_ble_eq_true rfl) ?_
  refine go_gen (fun g9 eg9 => ?_)
  have eg9 : g9 = va_up g7 a (some (.inr (0, [.int 0, .long 0, .long 0, .long 0, .null, .int 1, .int 0, .long 0, .int 8, .long 0, .null, .null, .null]))) := eg9
  have h10 : g9 a = some (.inr (0, [.int 0, .long 0, .long 0, .long 0, .null, .int 1, .int 0, .long 0, .int 8, .long 0, .null, .null, .null])) := by rw [eg9]; exact va_up_self _ _ _
  refine go_aload_n X (z := 0) d_B_init_30 rfl rfl ?_
  refine go_lconst X (v := 0) d_B_init_31 (by decide) ?_
  refine go_put X u_B rfl 9 (by decide) gm_fl_B_30 rfl t_B t_B_ok n_B rfl rfl rfl d_B_init_32 h10 (Nat.le_of_ble_eq_true rfl) ?_
  refine go_gen (fun g11 eg11 => ?_)
  have eg11 : g11 = va_up g9 a (some (.inr (0, [.int 0, .long 0, .long 0, .long 0, .null, .int 1, .int 0, .long 0, .int 8, .long 0, .null, .null, .null]))) := eg11
  have h12 : g11 a = some (.inr (0, [.int 0, .long 0, .long 0, .long 0, .null, .int 1, .int 0, .long 0, .int 8, .long 0, .null, .null, .null])) := by rw [eg11]; exact va_up_self _ _ _
  refine go_aload_n X (z := 0) d_B_init_35 rfl rfl ?_
  refine go_bipush X (v := 8) d_B_init_36 (by decide) ?_
  refine go_newa X 0 (atype := .int) (N := 8) (a0 := (8, .inl (fun _ => 0))) rfl rfl (fun _ h => by cases h) gm_ac_int (fun _ => rfl) (by decide) (by decide) (by decide) (by decide) (by decide) d_B_init_38 (fun q13 hq13 => ?_)
  refine go_gen (fun g14 eg14 => ?_)
  have eg14 : g14 = va_up g11 q13 (some (.inl (dA 0, 8, .inl (fun _ => 0)))) := eg14
  have h15 : g14 a = some (.inr (0, [.int 0, .long 0, .long 0, .long 0, .null, .int 1, .int 0, .long 0, .int 8, .long 0, .null, .null, .null])) := by rw [eg14, va_up_ne _ _ (ne_fresh h12 hq13)]; exact h12
  have h16 : g14 q13 = some (.inl (dA 0, 8, .inl (fun _ => 0))) := by rw [eg14]; exact va_up_self _ _ _
  refine go_putF X u_B rfl 10 (by decide) gm_fl_B_33 rfl t_B t_B_ok n_B rfl hnm rfl rfl rfl d_B_init_40 h15 (Nat.le_of_ble_eq_true rfl) ?_
  refine go_gen (fun g17 eg17 => ?_)
  have eg17 : g17 = va_up g14 a (some (.inr (0, [.int 0, .long 0, .long 0, .long 0, .null, .int 1, .int 0, .long 0, .int 8, .long 0, .ref q13, .null, .null]))) := eg17
  have h18 : g17 q13 = some (.inl (dA 0, 8, .inl (fun _ => 0))) := by rw [eg17, va_up_ne _ _ (ne_kind2 h16 h15)]; exact h16
  have h19 : g17 a = some (.inr (0, [.int 0, .long 0, .long 0, .long 0, .null, .int 1, .int 0, .long 0, .int 8, .long 0, .ref q13, .null, .null])) := by rw [eg17]; exact va_up_self _ _ _
  refine go_aload_n X (z := 0) d_B_init_43 rfl rfl ?_
  refine go_bipush X (v := 8) d_B_init_44 (by decide) ?_
  refine go_newa X 1 (atype := .long) (N := 8) (a0 := (8, .inr (.inl (fun _ => 0)))) rfl rfl (fun _ h => by cases h) gm_ac_long (fun _ => rfl) (by decide) (by decide) (by decide) (by decide) (by decide) d_B_init_46 (fun q20 hq20 => ?_)
  refine go_gen (fun g21 eg21 => ?_)
  have eg21 : g21 = va_up g17 q20 (some (.inl (dA 1, 8, .inr (.inl (fun _ => 0))))) := eg21
  have h22 : g21 a = some (.inr (0, [.int 0, .long 0, .long 0, .long 0, .null, .int 1, .int 0, .long 0, .int 8, .long 0, .ref q13, .null, .null])) := by rw [eg21, va_up_ne _ _ (ne_fresh h19 hq20)]; exact h19
  have h23 : g21 q13 = some (.inl (dA 0, 8, .inl (fun _ => 0))) := by rw [eg21, va_up_ne _ _ (ne_fresh h18 hq20)]; exact h18
  have h24 : g21 q20 = some (.inl (dA 1, 8, .inr (.inl (fun _ => 0)))) := by rw [eg21]; exact va_up_self _ _ _
  refine go_putF X u_B rfl 11 (by decide) gm_fl_B_37 rfl t_B t_B_ok n_B rfl hnm rfl rfl rfl d_B_init_48 h22 (Nat.le_of_ble_eq_true rfl) ?_
  refine go_gen (fun g25 eg25 => ?_)
  have eg25 : g25 = va_up g21 a (some (.inr (0, [.int 0, .long 0, .long 0, .long 0, .null, .int 1, .int 0, .long 0, .int 8, .long 0, .ref q13, .ref q20, .null]))) := eg25
  have h26 : g25 q13 = some (.inl (dA 0, 8, .inl (fun _ => 0))) := by rw [eg25, va_up_ne _ _ (ne_kind2 h23 h22)]; exact h23
  have h27 : g25 q20 = some (.inl (dA 1, 8, .inr (.inl (fun _ => 0)))) := by rw [eg25, va_up_ne _ _ (ne_kind2 h24 h22)]; exact h24
  have h28 : g25 a = some (.inr (0, [.int 0, .long 0, .long 0, .long 0, .null, .int 1, .int 0, .long 0, .int 8, .long 0, .ref q13, .ref q20, .null])) := by rw [eg25]; exact va_up_self _ _ _
  refine go_aload_n X (z := 0) d_B_init_51 rfl rfl ?_
  refine go_bipush X (v := 8) d_B_init_52 (by decide) ?_
  refine go_newa X 1 (atype := .long) (N := 8) (a0 := (8, .inr (.inl (fun _ => 0)))) rfl rfl (fun _ h => by cases h) gm_ac_long (fun _ => rfl) (by decide) (by decide) (by decide) (by decide) (by decide) d_B_init_54 (fun q29 hq29 => ?_)
  refine go_gen (fun g30 eg30 => ?_)
  have eg30 : g30 = va_up g25 q29 (some (.inl (dA 1, 8, .inr (.inl (fun _ => 0))))) := eg30
  have h31 : g30 a = some (.inr (0, [.int 0, .long 0, .long 0, .long 0, .null, .int 1, .int 0, .long 0, .int 8, .long 0, .ref q13, .ref q20, .null])) := by rw [eg30, va_up_ne _ _ (ne_fresh h28 hq29)]; exact h28
  have h32 : g30 q13 = some (.inl (dA 0, 8, .inl (fun _ => 0))) := by rw [eg30, va_up_ne _ _ (ne_fresh h26 hq29)]; exact h26
  have h33 : g30 q20 = some (.inl (dA 1, 8, .inr (.inl (fun _ => 0)))) := by rw [eg30, va_up_ne _ _ (ne_fresh h27 hq29)]; exact h27
  have h34 : g30 q29 = some (.inl (dA 1, 8, .inr (.inl (fun _ => 0)))) := by rw [eg30]; exact va_up_self _ _ _
  refine go_putF X u_B rfl 12 (by decide) gm_fl_B_41 rfl t_B t_B_ok n_B rfl hnm rfl rfl rfl d_B_init_56 h31 (Nat.le_of_ble_eq_true rfl) ?_
  refine go_gen (fun g35 eg35 => ?_)
  have eg35 : g35 = va_up g30 a (some (.inr (0, [.int 0, .long 0, .long 0, .long 0, .null, .int 1, .int 0, .long 0, .int 8, .long 0, .ref q13, .ref q20, .ref q29]))) := eg35
  have h36 : g35 q13 = some (.inl (dA 0, 8, .inl (fun _ => 0))) := by rw [eg35, va_up_ne _ _ (ne_kind2 h32 h31)]; exact h32
  have h37 : g35 q20 = some (.inl (dA 1, 8, .inr (.inl (fun _ => 0)))) := by rw [eg35, va_up_ne _ _ (ne_kind2 h33 h31)]; exact h33
  have h38 : g35 q29 = some (.inl (dA 1, 8, .inr (.inl (fun _ => 0)))) := by rw [eg35, va_up_ne _ _ (ne_kind2 h34 h31)]; exact h34
  have h39 : g35 a = some (.inr (0, [.int 0, .long 0, .long 0, .long 0, .null, .int 1, .int 0, .long 0, .int 8, .long 0, .ref q13, .ref q20, .ref q29])) := by rw [eg35]; exact va_up_self _ _ _
  refine go_aload_n X (z := 0) d_B_init_59 rfl rfl ?_
  refine go_iload_n X (z := 1) d_B_init_60 rfl rfl ?_
  refine go_putF X u_B rfl 0 (by decide) gm_fl_B_44 rfl t_B t_B_ok n_B rfl hnm rfl rfl rfl d_B_init_61 h39 (Nat.le_of_ble_eq_true rfl) ?_
  refine go_gen (fun g40 eg40 => ?_)
  have eg40 : g40 = va_up g35 a (some (.inr (0, [.int num, .long 0, .long 0, .long 0, .null, .int 1, .int 0, .long 0, .int 8, .long 0, .ref q13, .ref q20, .ref q29]))) := eg40
  have h41 : g40 q13 = some (.inl (dA 0, 8, .inl (fun _ => 0))) := by rw [eg40, va_up_ne _ _ (ne_kind2 h36 h39)]; exact h36
  have h42 : g40 q20 = some (.inl (dA 1, 8, .inr (.inl (fun _ => 0)))) := by rw [eg40, va_up_ne _ _ (ne_kind2 h37 h39)]; exact h37
  have h43 : g40 q29 = some (.inl (dA 1, 8, .inr (.inl (fun _ => 0)))) := by rw [eg40, va_up_ne _ _ (ne_kind2 h38 h39)]; exact h38
  have h44 : g40 a = some (.inr (0, [.int num, .long 0, .long 0, .long 0, .null, .int 1, .int 0, .long 0, .int 8, .long 0, .ref q13, .ref q20, .ref q29])) := by rw [eg40]; exact va_up_self _ _ _
  refine go_aload_n X (z := 0) d_B_init_64 rfl rfl ?_
  refine go_lload_n X (z := 2) d_B_init_65 rfl rfl ?_
  refine go_putF X u_B rfl 1 (by decide) gm_fl_B_47 rfl t_B t_B_ok n_B rfl hnm rfl rfl rfl d_B_init_66 h44 (Nat.le_of_ble_eq_true rfl) ?_
  refine go_gen (fun g45 eg45 => ?_)
  have eg45 : g45 = va_up g40 a (some (.inr (0, [.int num, .long len, .long 0, .long 0, .null, .int 1, .int 0, .long 0, .int 8, .long 0, .ref q13, .ref q20, .ref q29]))) := eg45
  have h46 : g45 q13 = some (.inl (dA 0, 8, .inl (fun _ => 0))) := by rw [eg45, va_up_ne _ _ (ne_kind2 h41 h44)]; exact h41
  have h47 : g45 q20 = some (.inl (dA 1, 8, .inr (.inl (fun _ => 0)))) := by rw [eg45, va_up_ne _ _ (ne_kind2 h42 h44)]; exact h42
  have h48 : g45 q29 = some (.inl (dA 1, 8, .inr (.inl (fun _ => 0)))) := by rw [eg45, va_up_ne _ _ (ne_kind2 h43 h44)]; exact h43
  have h49 : g45 a = some (.inr (0, [.int num, .long len, .long 0, .long 0, .null, .int 1, .int 0, .long 0, .int 8, .long 0, .ref q13, .ref q20, .ref q29])) := by rw [eg45]; exact va_up_self _ _ _
  refine go_aload_n X (z := 0) d_B_init_69 rfl rfl ?_
  refine go_lload X (z := 3) d_B_init_70 rfl ?_
  refine go_putF X u_B rfl 2 (by decide) gm_fl_B_50 rfl t_B t_B_ok n_B rfl hnm rfl rfl rfl d_B_init_72 h49 (Nat.le_of_ble_eq_true rfl) ?_
  refine go_gen (fun g50 eg50 => ?_)
  have eg50 : g50 = va_up g45 a (some (.inr (0, [.int num, .long len, .long spd, .long 0, .null, .int 1, .int 0, .long 0, .int 8, .long 0, .ref q13, .ref q20, .ref q29]))) := eg50
  have h51 : g50 q13 = some (.inl (dA 0, 8, .inl (fun _ => 0))) := by rw [eg50, va_up_ne _ _ (ne_kind2 h46 h49)]; exact h46
  have h52 : g50 q20 = some (.inl (dA 1, 8, .inr (.inl (fun _ => 0)))) := by rw [eg50, va_up_ne _ _ (ne_kind2 h47 h49)]; exact h47
  have h53 : g50 q29 = some (.inl (dA 1, 8, .inr (.inl (fun _ => 0)))) := by rw [eg50, va_up_ne _ _ (ne_kind2 h48 h49)]; exact h48
  have h54 : g50 a = some (.inr (0, [.int num, .long len, .long spd, .long 0, .null, .int 1, .int 0, .long 0, .int 8, .long 0, .ref q13, .ref q20, .ref q29])) := by rw [eg50]; exact va_up_self _ _ _
  refine go_aload_n X (z := 0) d_B_init_75 rfl rfl ?_
  refine go_lload_n X (z := 2) d_B_init_76 rfl rfl ?_
  refine go_ldc2 X d_B_init_77 gm_k_B_53 ?_
  refine go_ldiv X d_B_init_80 (by decide) ?_
  refine go_topl (fun x55 ex55 => ?_)
  refine go_putF X u_B rfl 3 (by decide) gm_fl_B_55 rfl t_B t_B_ok n_B rfl hnm rfl rfl rfl d_B_init_81 h54 (Nat.le_of_ble_eq_true rfl) ?_
  refine go_gen (fun g56 eg56 => ?_)
  have eg56 : g56 = va_up g50 a (some (.inr (0, [.int num, .long len, .long spd, .long x55, .null, .int 1, .int 0, .long 0, .int 8, .long 0, .ref q13, .ref q20, .ref q29]))) := eg56
  have h57 : g56 q13 = some (.inl (dA 0, 8, .inl (fun _ => 0))) := by rw [eg56, va_up_ne _ _ (ne_kind2 h51 h54)]; exact h51
  have h58 : g56 q20 = some (.inl (dA 1, 8, .inr (.inl (fun _ => 0)))) := by rw [eg56, va_up_ne _ _ (ne_kind2 h52 h54)]; exact h52
  have h59 : g56 q29 = some (.inl (dA 1, 8, .inr (.inl (fun _ => 0)))) := by rw [eg56, va_up_ne _ _ (ne_kind2 h53 h54)]; exact h53
  have h60 : g56 a = some (.inr (0, [.int num, .long len, .long spd, .long x55, .null, .int 1, .int 0, .long 0, .int 8, .long 0, .ref q13, .ref q20, .ref q29])) := by rw [eg56]; exact va_up_self _ _ _
  rw [eg11, eg9, eg7, eg5, eg3, eg1] at hq13
  simp only [bx_uu, up_mid] at hq13
  obtain ⟨n0a, z0⟩ := up_none hq13
  rw [eg17, eg14, eg11, eg9, eg7, eg5, eg3, eg1] at hq20
  simp only [bx_uu, up_mid] at hq20
  obtain ⟨n1a, z1⟩ := up_none hq20
  obtain ⟨n1q13, z1⟩ := up_none z1
  rw [eg25, eg21, eg17, eg14, eg11, eg9, eg7, eg5, eg3, eg1] at hq29
  simp only [bx_uu, up_mid] at hq29
  obtain ⟨n2a, z2⟩ := up_none hq29
  obtain ⟨n2q20, z2⟩ := up_none z2
  obtain ⟨n2q13, z2⟩ := up_none z2
  exact go_retV X hr hlk d_B_init_84 ⟨q13, q20, q29, z0, z1, z2, n1q13.symm, n2q13.symm, n2q20.symm, by rw [eg56, eg50, eg45, eg40, eg35, eg30, eg25, eg21, eg17, eg14, eg11, eg9, eg7, eg5, eg3, eg1]; simp only [bx_uu, up_mid]; subst_vars; rfl⟩
