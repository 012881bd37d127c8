/-! The reference: its public methods. -/
theorem isBF_1 {nb : Nat} {x : Int32} (h : ¬ isBF nb x = 0) (hn : nb < 2 ^ 31) : ∃ k, k < nb ∧ x = nI k := by
  unfold isBF at h
  by_cases h1 : x < 0
  · rw [if_pos h1] at h; exact absurd rfl h
  · by_cases h2 : nI nb ≤ x
    · rw [if_neg h1, if_pos h2] at h; exact absurd rfl h
    · exact ix_of h1 h2 hn
theorem isBF_0 {nb : Nat} {x : Int32} (h : isBF nb x = 0) (hn : nb < 2 ^ 31) : ∀ k, k < nb → x ≠ nI k := by
  unfold isBF at h
  by_cases h1 : x < 0
  · exact ix_lt h1 hn
  · by_cases h2 : nI nb ≤ x
    · exact ix_ge h2 hn
    · rw [if_neg h1, if_neg h2] at h; exact absurd h (by decide)
theorem isIF_1 {ni : Nat} {x : Int32} (h : ¬ isIF ni x = 0) (hn : ni < 2 ^ 30) : ∃ k, k < ni ∧ x = nI (k + 1) := by
  unfold isIF at h
  by_cases h1 : x ≤ 0
  · rw [if_pos h1] at h; exact absurd rfl h
  · by_cases h2 : nI ni < x
    · rw [if_neg h1, if_pos h2] at h; exact absurd rfl h
    · refine i1_of (fun q => h1 ?_) h2 hn
      have := Int32.lt_iff_toInt_lt.mp q
      rw [Int32.le_iff_toInt_le]
      simp at this ⊢
      omega
theorem isIF_0 {ni : Nat} {x : Int32} (h : isIF ni x = 0) (hn : ni < 2 ^ 30) : ∀ k, k < ni → x ≠ nI (k + 1) := by
  unfold isIF at h
  by_cases h1 : x ≤ 0
  · refine i1_lt ?_ hn
    have := Int32.le_iff_toInt_le.mp h1
    rw [Int32.lt_iff_toInt_lt]
    simp at this ⊢
    omega
  · by_cases h2 : nI ni < x
    · exact i1_gt h2 hn
    · rw [if_neg h1, if_neg h2] at h; exact absurd h (by decide)
theorem inF_1 {t now : Int64} (h : ¬ inF t now 1000000 = 0) : now ≤ t ∧ t ≤ 1000000 := by
  unfold inF at h
  by_cases h1 : t < now
  · rw [if_pos h1] at h; exact absurd rfl h
  · by_cases h2 : 1000000 < t
    · rw [if_neg h1, if_pos h2] at h; exact absurd rfl h
    · exact ⟨Int64.not_lt.mp h1, Int64.not_lt.mp h2⟩
def cntM (now : Int64) (L : LA) (J : JA) (b : Nat) : Nat → Int32
  | 0 => 0
  | k + 1 => if thereF now L J (k + 1) = 0 then cntM now L J b k else if J 14 (k + 1) = nI b then cntM now L J b k + 1 else cntM now L J b k
def readM (L : LA) (J : JA) (ed : Nat) (i what : Int32) : Int32 := if i < 0 then -1 else if nI ed ≤ i then -1 else if 400 ≤ i then -1 else if what < 0 then -1 else if what ≤ 3 then (if what = 0 then (L 21 i.toNatClampNeg).toInt32 else if what = 1 then J 22 i.toNatClampNeg else if what = 2 then J 23 i.toNatClampNeg else J 24 i.toNatClampNeg) else -1
def plN (L : LA) (J : JA) : Nat → Nat → Int64 → Int64 → Int64
  | 0, b, p, _ => 1000000000 * (nI b).toInt64 + p
  | f + 1, b, p, m => if p + rateMF L J b m < L 3 b then plN L J f b (p + rateMF L J b m) (m + 1) else if J 5 b = -1 then -1 else plN L J f (J 5 b).toNatClampNeg (p + rateMF L J b m - L 3 b) (m + 1)
def placeM (now : Int64) (L : LA) (J : JA) (i : Nat) (t : Int64) : Int64 := if J 16 i = 0 then (if L 13 i ≤ t then plN L J (t.toInt - (if L 13 i ≤ now then now else L 13 i).toInt).toNat (oN J i) (L 15 i) (if L 13 i ≤ now then now else L 13 i) else -2) else -1
def bfM (L : LA) (J : JA) (k : Nat) (t : Int64) : Int32 := if t = 0 then 8 else if t ≤ L 6 k then J 8 k else gearMF L J k (t - 1)
section M4
variable {ad : Nat → Nat} {th : Int32} {now : Int64} {nb ni ed : Nat} {kn : Int32} {L : LA} {J : JA}
set_option maxHeartbeats 4000000 in
set_option maxRecDepth 100000 in
theorem c_M_gear {l : Launch} {D : va_G} {dA : Nat → ClassId} {g : Nat → Option va_E}  (h : MRep dA ad g th now nb ni ed kn L J) (hW : MWf nb ni J) (x : Int32) (t : Int64) : CtI l D classes (tyL dA) y_M_gear b_M_gear 4 (some .int) rm_M_gear [.ref (ad 0), .int x, .long t] g (fun r g' => (MRep dA ad g' 0 now nb ni ed kn L J ∧ MFr ad g g') ∧ (((∀ k, k < nb → x ≠ nI k) ∧ r = -11) ∨ (∃ k, k < nb ∧ x = nI k ∧ ((inF t now 1000000 = 0 ∧ r = -12) ∨ (¬ inF t now 1000000 = 0 ∧ r = gearMF L J k t))))) := by
  refine CtI.of (by decide) (Nat.le_of_ble_eq_true rfl) ?_
  intro p e s m below meth c X hr hlk hnm
  have hnb := hW.1
  have hni := hW.2.1
  refine go_aload_n X (z := 0) d_M_gear_0 rfl rfl ?_
  refine go_iconst X (v := 0) d_M_gear_1 (by decide) ?_
  refine go_put X u_M rfl 0 (by decide) gm_fl_M_69 rfl t_M t_M_ok n_M rfl rfl rfl d_M_gear_2 h.this (Nat.le_of_ble_eq_true rfl) ?_
  refine go_gen (fun g1 e1 => ?_)
  have h1 : MRep dA ad g1 0 now nb ni ed kn L J := by rw [e1]; exact h.set0
  have hF1 : MFr ad g g1 := by rw [e1]; exact MFr.up rfl
  refine go_aload_n X (z := 0) d_M_gear_5 rfl rfl ?_
  refine go_iload_n X (z := 1) d_M_gear_6 rfl rfl ?_
  refine go_callI_V X (As := [.int x]) (rest := []) (c_M_isBelt h1 x) gm_ml_M_95 cw_M_isBelt ⟨by decide, by decide⟩ rfl h1.this rfl rfl (Nat.le_of_ble_eq_true rfl) d_M_gear_7 ⟨by decide, by decide⟩ (fun ru1 gu1 hu1 => ?_)
  obtain ⟨rfl, rfl⟩ := hu1
  refine go_if_ne X (tgt := 16) d_M_gear_10 rfl (fun c2 => ?_) (fun c2 => ?_)
  · obtain ⟨k, hk, rfl⟩ := isBF_1 c2 (by have := hW.1; omega)
    refine go_aload_n X (z := 0) d_M_gear_16 rfl rfl ?_
    refine go_lload_n X (z := 2) d_M_gear_17 rfl rfl ?_
    refine go_callI_V X (As := [.long t]) (rest := []) (c_M_isTime h1 t) gm_ml_M_99 cw_M_isTime ⟨by decide, by decide⟩ rfl h1.this rfl rfl (Nat.le_of_ble_eq_true rfl) d_M_gear_18 ⟨by decide, by decide⟩ (fun ru3 gu3 hu3 => ?_)
    obtain ⟨rfl, rfl⟩ := hu3
    refine go_if_eq X (tgt := 33) d_M_gear_21 rfl (fun c4 => ?_) (fun c4 => ?_)
    · refine go_bipush X (v := (-12)) d_M_gear_33 (by decide) ?_
      exact go_retI X hr hlk d_M_gear_35 ⟨⟨h1, hF1⟩, Or.inr ⟨k, hk, rfl, Or.inl ⟨c4, rfl⟩⟩⟩
    · refine go_aload_n X (z := 0) d_M_gear_24 rfl rfl ?_
      refine go_iload_n X (z := 1) d_M_gear_25 rfl rfl ?_
      refine go_lload_n X (z := 2) d_M_gear_26 rfl rfl ?_
      refine go_callI_V X (As := [.int ((nI k)), .long t]) (rest := []) (c_M_gearAt h1 (b := k) (by omega) t) gm_ml_M_107 cw_M_gearAt ⟨by decide, by decide⟩ rfl h1.this rfl rfl (Nat.le_of_ble_eq_true rfl) d_M_gear_27 ⟨by decide, by decide⟩ (fun ru5 gu5 hu5 => ?_)
      obtain ⟨rfl, rfl⟩ := hu5
      refine go_goto X (tgt := 35) d_M_gear_30 rfl ?_
      exact go_retI X hr hlk d_M_gear_35 ⟨⟨h1, hF1⟩, Or.inr ⟨k, hk, rfl, Or.inr ⟨c4, rfl⟩⟩⟩
  · refine go_bipush X (v := (-11)) d_M_gear_13 (by decide) ?_
    exact go_retI X hr hlk d_M_gear_15 ⟨⟨h1, hF1⟩, Or.inl ⟨isBF_0 c2 (by have := hW.1; omega), rfl⟩⟩
set_option maxHeartbeats 4000000 in
set_option maxRecDepth 100000 in
theorem c_M_edge {l : Launch} {D : va_G} {dA : Nat → ClassId} {g : Nat → Option va_E}  (h : MRep dA ad g th now nb ni ed kn L J) (hW : MWf nb ni J) (i what : Int32) : CtI l D classes (tyL dA) y_M_edge b_M_edge 3 (some .int) rm_M_edge [.ref (ad 0), .int i, .int what] g (fun r g' => (MRep dA ad g' 0 now nb ni ed kn L J ∧ MFr ad g g') ∧ r = readM L J ed i what) := by
  refine CtI.of (by decide) (Nat.le_of_ble_eq_true rfl) ?_
  intro p e s m below meth c X hr hlk hnm
  refine go_aload_n X (z := 0) d_M_edge_0 rfl rfl ?_
  refine go_iconst X (v := 0) d_M_edge_1 (by decide) ?_
  refine go_put X u_M rfl 0 (by decide) gm_fl_M_69 rfl t_M t_M_ok n_M rfl rfl rfl d_M_edge_2 h.this (Nat.le_of_ble_eq_true rfl) ?_
  refine go_gen (fun g1 e1 => ?_)
  have h1 : MRep dA ad g1 0 now nb ni ed kn L J := by rw [e1]; exact h.set0
  have hF1 : MFr ad g g1 := by rw [e1]; exact MFr.up rfl
  refine go_iload_n X (z := 1) d_M_edge_5 rfl rfl ?_
  refine go_if_lt X (tgt := 33) d_M_edge_6 rfl (fun c1 => ?_) (fun c1 => ?_)
  · refine go_iconst X (v := (-1)) d_M_edge_33 (by decide) ?_
    exact go_retI X hr hlk d_M_edge_34 ⟨⟨h1, hF1⟩, by simp only [readM, if_pos c1]⟩
  · refine go_iload_n X (z := 1) d_M_edge_9 rfl rfl ?_
    refine go_aload_n X (z := 0) d_M_edge_10 rfl rfl ?_
    refine go_get X u_M rfl 19 (by decide) gm_fl_M_116 rfl d_M_edge_11 h1.this rfl ?_
    refine go_icmp_ge X (tgt := 33) d_M_edge_14 rfl (fun c2 => ?_) (fun c2 => ?_)
    · refine go_iconst X (v := (-1)) d_M_edge_33 (by decide) ?_
      exact go_retI X hr hlk d_M_edge_34 ⟨⟨h1, hF1⟩, by simp only [readM, if_neg c1, if_pos c2]⟩
    · refine go_iload_n X (z := 1) d_M_edge_17 rfl rfl ?_
      refine go_sipush X (v := 400) d_M_edge_18 (by decide) ?_
      refine go_icmp_ge X (tgt := 33) d_M_edge_21 rfl (fun c3 => ?_) (fun c3 => ?_)
      · refine go_iconst X (v := (-1)) d_M_edge_33 (by decide) ?_
        exact go_retI X hr hlk d_M_edge_34 ⟨⟨h1, hF1⟩, by simp only [readM, if_neg c1, if_neg c2, if_pos c3]⟩
      · refine go_iload_n X (z := 2) d_M_edge_24 rfl rfl ?_
        refine go_if_lt X (tgt := 33) d_M_edge_25 rfl (fun c4 => ?_) (fun c4 => ?_)
        · refine go_iconst X (v := (-1)) d_M_edge_33 (by decide) ?_
          exact go_retI X hr hlk d_M_edge_34 ⟨⟨h1, hF1⟩, by simp only [readM, if_neg c1, if_neg c2, if_neg c3, if_pos c4]⟩
        · refine go_iload_n X (z := 2) d_M_edge_28 rfl rfl ?_
          refine go_iconst X (v := 3) d_M_edge_29 (by decide) ?_
          refine go_icmp_le X (tgt := 35) d_M_edge_30 rfl (fun c5 => ?_) (fun c5 => ?_)
          · have hin : vp_in i 400 := fun z => z.elim c1 (fun z => c3 (by obtain ⟨q, hq, rfl⟩ := nI_of c1; rw [nI_clamp hq] at z; exact nI_le (a := 400) z hq))
            refine go_iload_n X (z := 2) d_M_edge_35 rfl rfl ?_
            refine go_if_ne X (tgt := 49) d_M_edge_36 rfl (fun c6 => ?_) (fun c6 => ?_)
            · refine go_iload_n X (z := 2) d_M_edge_49 rfl rfl ?_
              refine go_iconst X (v := 1) d_M_edge_50 (by decide) ?_
              refine go_icmp_ne X (tgt := 63) d_M_edge_51 rfl (fun c7 => ?_) (fun c7 => ?_)
              · refine go_iload_n X (z := 2) d_M_edge_63 rfl rfl ?_
                refine go_iconst X (v := 2) d_M_edge_64 (by decide) ?_
                refine go_icmp_ne X (tgt := 77) d_M_edge_65 rfl (fun c8 => ?_) (fun c8 => ?_)
                · refine go_aload_n X (z := 0) d_M_edge_77 rfl rfl ?_
                  refine go_get X u_M rfl 24 (by decide) gm_fl_M_66 rfl d_M_edge_78 h1.this rfl ?_
                  refine go_iload_n X (z := 1) d_M_edge_81 rfl rfl ?_
                  refine go_iald X 0 rfl d_M_edge_82 h1.a24 hin ?_
                  exact go_retI X hr hlk d_M_edge_83 ⟨⟨h1, hF1⟩, by simp only [readM, if_neg c1, if_neg c2, if_neg c3, if_neg c4, if_pos c5, if_neg c6, if_neg c7, if_neg c8]⟩
                · refine go_aload_n X (z := 0) d_M_edge_68 rfl rfl ?_
                  refine go_get X u_M rfl 23 (by decide) gm_fl_M_63 rfl d_M_edge_69 h1.this rfl ?_
                  refine go_iload_n X (z := 1) d_M_edge_72 rfl rfl ?_
                  refine go_iald X 0 rfl d_M_edge_73 h1.a23 hin ?_
                  refine go_goto X (tgt := 83) d_M_edge_74 rfl ?_
                  exact go_retI X hr hlk d_M_edge_83 ⟨⟨h1, hF1⟩, by simp only [readM, if_neg c1, if_neg c2, if_neg c3, if_neg c4, if_pos c5, if_neg c6, if_neg c7, if_pos c8]⟩
              · refine go_aload_n X (z := 0) d_M_edge_54 rfl rfl ?_
                refine go_get X u_M rfl 22 (by decide) gm_fl_M_60 rfl d_M_edge_55 h1.this rfl ?_
                refine go_iload_n X (z := 1) d_M_edge_58 rfl rfl ?_
                refine go_iald X 0 rfl d_M_edge_59 h1.a22 hin ?_
                refine go_goto X (tgt := 83) d_M_edge_60 rfl ?_
                exact go_retI X hr hlk d_M_edge_83 ⟨⟨h1, hF1⟩, by simp only [readM, if_neg c1, if_neg c2, if_neg c3, if_neg c4, if_pos c5, if_neg c6, if_pos c7]⟩
            · refine go_aload_n X (z := 0) d_M_edge_39 rfl rfl ?_
              refine go_get X u_M rfl 21 (by decide) gm_fl_M_57 rfl d_M_edge_40 h1.this rfl ?_
              refine go_iload_n X (z := 1) d_M_edge_43 rfl rfl ?_
              refine go_lald X 1 rfl d_M_edge_44 h1.a21 hin ?_
              refine go_l2i X d_M_edge_45 rfl ?_
              refine go_goto X (tgt := 83) d_M_edge_46 rfl ?_
              exact go_retI X hr hlk d_M_edge_83 ⟨⟨h1, hF1⟩, by simp only [readM, if_neg c1, if_neg c2, if_neg c3, if_neg c4, if_pos c5, if_pos c6]⟩
          · refine go_iconst X (v := (-1)) d_M_edge_33 (by decide) ?_
            exact go_retI X hr hlk d_M_edge_34 ⟨⟨h1, hF1⟩, by simp only [readM, if_neg c1, if_neg c2, if_neg c3, if_neg c4, if_neg c5]⟩
set_option maxHeartbeats 4000000 in
set_option maxRecDepth 100000 in
theorem c_M_count {l : Launch} {D : va_G} {dA : Nat → ClassId} {g : Nat → Option va_E}  (h : MRep dA ad g th now nb ni ed kn L J) (hW : MWf nb ni J) (x : Int32) : CtI l D classes (tyL dA) y_M_count b_M_count 4 (some .int) rm_M_count [.ref (ad 0), .int x] g (fun r g' => (MRep dA ad g' 0 now nb ni ed kn L J ∧ MFr ad g g') ∧ (((∀ k, k < nb → x ≠ nI k) ∧ r = -11) ∨ (∃ k, k < nb ∧ x = nI k ∧ r = cntM now L J k ni))) := by
  refine CtI.of (by decide) (Nat.le_of_ble_eq_true rfl) ?_
  intro p e s m below meth c X hr hlk hnm
  have hnb := hW.1
  have hni := hW.2.1
  refine go_aload_n X (z := 0) d_M_count_0 rfl rfl ?_
  refine go_iconst X (v := 0) d_M_count_1 (by decide) ?_
  refine go_put X u_M rfl 0 (by decide) gm_fl_M_69 rfl t_M t_M_ok n_M rfl rfl rfl d_M_count_2 h.this (Nat.le_of_ble_eq_true rfl) ?_
  refine go_gen (fun g1 e1 => ?_)
  have h1 : MRep dA ad g1 0 now nb ni ed kn L J := by rw [e1]; exact h.set0
  have hF1 : MFr ad g g1 := by rw [e1]; exact MFr.up rfl
  refine go_aload_n X (z := 0) d_M_count_5 rfl rfl ?_
  refine go_iload_n X (z := 1) d_M_count_6 rfl rfl ?_
  refine go_callI_V X (As := [.int x]) (rest := []) (c_M_isBelt h1 x) gm_ml_M_95 cw_M_isBelt ⟨by decide, by decide⟩ rfl h1.this rfl rfl (Nat.le_of_ble_eq_true rfl) d_M_count_7 ⟨by decide, by decide⟩ (fun ru1 gu1 hu1 => ?_)
  obtain ⟨rfl, rfl⟩ := hu1
  refine go_if_ne X (tgt := 16) d_M_count_10 rfl (fun c2 => ?_) (fun c2 => ?_)
  · obtain ⟨k, hk, rfl⟩ := isBF_1 c2 (by have := hW.1; omega)
    refine go_iconst X (v := 0) d_M_count_16 (by decide) ?_
    refine go_istore_n X (lv' := [(2, .int 0), (0, .ref (ad 0)), (1, .int ((nI k)))]) d_M_count_17 rfl (by decide) rfl ?_
    refine go_iconst X (v := 1) d_M_count_18 (by decide) ?_
    refine go_istore_n X (lv' := [(3, .int 1), (2, .int 0), (0, .ref (ad 0)), (1, .int ((nI k)))]) d_M_count_19 rfl (by decide) rfl ?_
    have loop : ∀ (f q : Nat) (v : Int32), q + f = ni → v = cntM now L J k q → Go p l e rm_M_count s m [.ref (ad 0), .int ((nI k))].toArray below meth c D classes (gA g s.heap.size) 4 (MQ below (va_Qi (fun r g' => (MRep dA ad g' 0 now nb ni ed kn L J ∧ MFr ad g g') ∧ (((∀ k_1, k_1 < nb → nI k ≠ nI k_1) ∧ r = -11) ∨ (∃ k_1, k_1 < nb ∧ nI k = nI k_1 ∧ r = cntM now L J k_1 ni))) (fun (g' : Nat → Option va_E) (t : State) => PW D classes (gA g s.heap.size) g' t.heap) (gA g s.heap.size)) [.ref (ad 0), .int ((nI k))].toArray s 0 0 (gA g s.heap.size)) g1 0 0 20 [(3, .int ((nI (q + 1)))), (2, .int v), (0, .ref (ad 0)), (1, .int ((nI k)))] [] := by
      intro f
      induction f with
      | zero =>
        intro q v hq hv
        have hqn : q = ni := by omega
        subst hqn
        refine go_iload_n X (z := 0) d_M_count_20 rfl rfl ?_
        refine go_aload_n X (z := 2) d_M_count_21 rfl rfl ?_
        refine go_get X u_M rfl 11 (by decide) gm_fl_M_76 rfl d_M_count_22 h1.this rfl ?_
        refine go_icmp_gt X (tgt := 60) d_M_count_25 rfl (fun c1 => ?_) (fun c1 => absurd (nI_lt (by omega) (by omega)) c1)
        refine go_iload_n X (z := 1) d_M_count_60 rfl rfl ?_
        exact go_retI X hr hlk d_M_count_61 ⟨⟨h1, hF1⟩, Or.inr ⟨k, hk, rfl, hv⟩⟩
      | succ f ih =>
        intro q v hqf hv
        refine go_iload_n X (z := 0) d_M_count_20 rfl rfl ?_
        refine go_aload_n X (z := 2) d_M_count_21 rfl rfl ?_
        refine go_get X u_M rfl 11 (by decide) gm_fl_M_76 rfl d_M_count_22 h1.this rfl ?_
        refine go_icmp_gt X (tgt := 60) d_M_count_25 rfl (fun c1 => absurd c1 (nI_nlt (a := ni) (b := q + 1) (by omega) (by omega))) (fun c1 => ?_)
        refine go_aload_n X (z := 2) d_M_count_28 rfl rfl ?_
        refine go_iload_n X (z := 0) d_M_count_29 rfl rfl ?_
        refine go_callI_V X (As := [.int ((nI (q + 1)))]) (rest := []) (c_M_isThere h1 (by omega)) gm_ml_M_111 cw_M_isThere ⟨by decide, by decide⟩ rfl h1.this rfl rfl (Nat.le_of_ble_eq_true rfl) d_M_count_30 ⟨by decide, by decide⟩ (fun ru2 gu2 hu2 => ?_)
        obtain ⟨rfl, rfl⟩ := hu2
        refine go_if_eq X (tgt := 52) d_M_count_33 rfl (fun c3 => ?_) (fun c3 => ?_)
        · refine go_iload_n X (z := 1) d_M_count_52 rfl rfl ?_
          refine go_istore_n X (lv' := [(2, .int v), (3, .int ((nI (q + 1)))), (0, .ref (ad 0)), (1, .int ((nI k)))]) d_M_count_53 rfl (by decide) rfl ?_
          refine go_iinc X (j := 1) (v := nI (q + 1 + 1)) d_M_count_54 rfl (nI_1 (q + 1)) (by decide) rfl ?_
          refine go_goto X (tgt := 20) d_M_count_57 rfl ?_
          refine go_sub (lv' := [(3, .int (nI (q + 1 + 1))), (2, .int v), (0, .ref (ad 0)), (1, .int (nI k))]) [0, 1, 2, 3] rfl ?_
          exact ih (q + 1) v (by omega) (by simp only [cntM]; rw [if_pos c3, hv])
        · refine go_aload_n X (z := 2) d_M_count_36 rfl rfl ?_
          refine go_get X u_M rfl 14 (by decide) gm_fl_M_42 rfl d_M_count_37 h1.this rfl ?_
          refine go_iload_n X (z := 0) d_M_count_40 rfl rfl ?_
          refine go_iald X 0 rfl d_M_count_41 h1.a14 (vp_in_nI (by omega) (by decide)) ?_
          rw [nI_clamp (show (q + 1) < 2 ^ 31 by omega)]
          refine go_iload_n X (z := 3) d_M_count_42 rfl rfl ?_
          refine go_icmp_ne X (tgt := 52) d_M_count_43 rfl (fun c4 => ?_) (fun c4 => ?_)
          · refine go_iload_n X (z := 1) d_M_count_52 rfl rfl ?_
            refine go_istore_n X (lv' := [(2, .int v), (3, .int ((nI (q + 1)))), (0, .ref (ad 0)), (1, .int ((nI k)))]) d_M_count_53 rfl (by decide) rfl ?_
            refine go_iinc X (j := 1) (v := nI (q + 1 + 1)) d_M_count_54 rfl (nI_1 (q + 1)) (by decide) rfl ?_
            refine go_goto X (tgt := 20) d_M_count_57 rfl ?_
            refine go_sub (lv' := [(3, .int (nI (q + 1 + 1))), (2, .int v), (0, .ref (ad 0)), (1, .int (nI k))]) [0, 1, 2, 3] rfl ?_
            exact ih (q + 1) v (by omega) (by simp only [cntM]; rw [if_neg c3, if_neg c4, hv])
          · refine go_iload_n X (z := 1) d_M_count_46 rfl rfl ?_
            refine go_iconst X (v := 1) d_M_count_47 (by decide) ?_
            refine go_iadd X d_M_count_48 ?_
            refine go_goto X (tgt := 53) d_M_count_49 rfl ?_
            refine go_topi (fun x5 ex5 => ?_)
            refine go_istore_n X (lv' := [(2, .int x5), (3, .int ((nI (q + 1)))), (0, .ref (ad 0)), (1, .int ((nI k)))]) d_M_count_53 rfl (by decide) rfl ?_
            refine go_iinc X (j := 1) (v := nI (q + 1 + 1)) d_M_count_54 rfl (nI_1 (q + 1)) (by decide) rfl ?_
            refine go_goto X (tgt := 20) d_M_count_57 rfl ?_
            refine go_sub (lv' := [(3, .int (nI (q + 1 + 1))), (2, .int x5), (0, .ref (ad 0)), (1, .int (nI k))]) [0, 1, 2, 3] rfl ?_
            exact ih (q + 1) x5 (by omega) (by rw [ex5]; simp only [cntM]; rw [if_neg c3, if_pos c4, hv])
    refine go_sub (lv' := [(3, .int (nI (0 + 1))), (2, .int 0), (0, .ref (ad 0)), (1, .int (nI k))]) [0, 1, 2, 3] rfl ?_
    exact loop ni 0 0 (Nat.zero_add _) rfl
  · refine go_bipush X (v := (-11)) d_M_count_13 (by decide) ?_
    exact go_retI X hr hlk d_M_count_15 ⟨⟨h1, hF1⟩, Or.inl ⟨isBF_0 c2 (by have := hW.1; omega), rfl⟩⟩
set_option maxHeartbeats 4000000 in
set_option maxRecDepth 100000 in
theorem c_M_gap {l : Launch} {D : va_G} {dA : Nat → ClassId} {g : Nat → Option va_E}  (h : MRep dA ad g th now nb ni ed kn L J) (hW : MWf nb ni J) (x y : Int32) : CtI l D classes (tyL dA) y_M_gap b_M_gap 3 (some .int) rm_M_gap [.ref (ad 0), .int x, .int y] g (fun r g' => (MRep dA ad g' 0 now nb ni ed kn L J ∧ MFr ad g g') ∧ ((((∀ k, k < ni → x ≠ nI (k + 1)) ∨ (∀ k, k < ni → y ≠ nI (k + 1))) ∧ r = -11) ∨ (∃ k, k < ni ∧ x = nI (k + 1) ∧ ∃ q, q < ni ∧ y = nI (q + 1) ∧ ((nI (k + 1) = nI (q + 1) ∧ r = -12) ∨ (¬ nI (k + 1) = nI (q + 1) ∧ (((thereF now L J (k + 1) = 0 ∨ thereF now L J (q + 1) = 0 ∨ ¬ J 14 (k + 1) = J 14 (q + 1)) ∧ r = -13) ∨ (¬ thereF now L J (k + 1) = 0 ∧ ¬ thereF now L J (q + 1) = 0 ∧ J 14 (k + 1) = J 14 (q + 1) ∧ r = (L 15 (q + 1) - L 12 (q + 1) - L 15 (k + 1)).toInt32))))))) := by
  refine CtI.of (by decide) (Nat.le_of_ble_eq_true rfl) ?_
  intro p e s m below meth c X hr hlk hnm
  have hnb := hW.1
  have hni := hW.2.1
  refine go_aload_n X (z := 0) d_M_gap_0 rfl rfl ?_
  refine go_iconst X (v := 0) d_M_gap_1 (by decide) ?_
  refine go_put X u_M rfl 0 (by decide) gm_fl_M_69 rfl t_M t_M_ok n_M rfl rfl rfl d_M_gap_2 h.this (Nat.le_of_ble_eq_true rfl) ?_
  refine go_gen (fun g1 e1 => ?_)
  have h1 : MRep dA ad g1 0 now nb ni ed kn L J := by rw [e1]; exact h.set0
  have hF1 : MFr ad g g1 := by rw [e1]; exact MFr.up rfl
  refine go_aload_n X (z := 0) d_M_gap_5 rfl rfl ?_
  refine go_iload_n X (z := 1) d_M_gap_6 rfl rfl ?_
  refine go_callI_V X (As := [.int x]) (rest := []) (c_M_isItem h1 x) gm_ml_M_145 cw_M_isItem ⟨by decide, by decide⟩ rfl h1.this rfl rfl (Nat.le_of_ble_eq_true rfl) d_M_gap_7 ⟨by decide, by decide⟩ (fun ru1 gu1 hu1 => ?_)
  obtain ⟨rfl, rfl⟩ := hu1
  refine go_if_eq X (tgt := 21) d_M_gap_10 rfl (fun c2 => ?_) (fun c2 => ?_)
  · refine go_bipush X (v := (-11)) d_M_gap_21 (by decide) ?_
    exact go_retI X hr hlk d_M_gap_23 ⟨⟨h1, hF1⟩, Or.inl ⟨Or.inl (isIF_0 c2 (by have := hW.2.1; omega)), rfl⟩⟩
  · refine go_aload_n X (z := 0) d_M_gap_13 rfl rfl ?_
    refine go_iload_n X (z := 2) d_M_gap_14 rfl rfl ?_
    refine go_callI_V X (As := [.int y]) (rest := []) (c_M_isItem h1 y) gm_ml_M_145 cw_M_isItem ⟨by decide, by decide⟩ rfl h1.this rfl rfl (Nat.le_of_ble_eq_true rfl) d_M_gap_15 ⟨by decide, by decide⟩ (fun ru3 gu3 hu3 => ?_)
    obtain ⟨rfl, rfl⟩ := hu3
    refine go_if_ne X (tgt := 24) d_M_gap_18 rfl (fun c4 => ?_) (fun c4 => ?_)
    · obtain ⟨k, hk, rfl⟩ := isIF_1 c2 (by have := hW.2.1; omega)
      obtain ⟨q, hq, rfl⟩ := isIF_1 c4 (by have := hW.2.1; omega)
      refine go_iload_n X (z := 1) d_M_gap_24 rfl rfl ?_
      refine go_iload_n X (z := 2) d_M_gap_25 rfl rfl ?_
      refine go_icmp_ne X (tgt := 32) d_M_gap_26 rfl (fun c5 => ?_) (fun c5 => ?_)
      · refine go_aload_n X (z := 0) d_M_gap_32 rfl rfl ?_
        refine go_iload_n X (z := 1) d_M_gap_33 rfl rfl ?_
        refine go_callI_V X (As := [.int ((nI (k + 1)))]) (rest := []) (c_M_isThere h1 (i := k + 1) (by omega)) gm_ml_M_111 cw_M_isThere ⟨by decide, by decide⟩ rfl h1.this rfl rfl (Nat.le_of_ble_eq_true rfl) d_M_gap_34 ⟨by decide, by decide⟩ (fun ru6 gu6 hu6 => ?_)
        obtain ⟨rfl, rfl⟩ := hu6
        refine go_if_eq X (tgt := 63) d_M_gap_37 rfl (fun c7 => ?_) (fun c7 => ?_)
        · refine go_bipush X (v := (-13)) d_M_gap_63 (by decide) ?_
          exact go_retI X hr hlk d_M_gap_65 ⟨⟨h1, hF1⟩, Or.inr ⟨k, hk, rfl, q, hq, rfl, Or.inr ⟨c5, Or.inl ⟨Or.inl c7, rfl⟩⟩⟩⟩
        · refine go_aload_n X (z := 0) d_M_gap_40 rfl rfl ?_
          refine go_iload_n X (z := 2) d_M_gap_41 rfl rfl ?_
          refine go_callI_V X (As := [.int ((nI (q + 1)))]) (rest := []) (c_M_isThere h1 (i := q + 1) (by omega)) gm_ml_M_111 cw_M_isThere ⟨by decide, by decide⟩ rfl h1.this rfl rfl (Nat.le_of_ble_eq_true rfl) d_M_gap_42 ⟨by decide, by decide⟩ (fun ru8 gu8 hu8 => ?_)
          obtain ⟨rfl, rfl⟩ := hu8
          refine go_if_eq X (tgt := 63) d_M_gap_45 rfl (fun c9 => ?_) (fun c9 => ?_)
          · refine go_bipush X (v := (-13)) d_M_gap_63 (by decide) ?_
            exact go_retI X hr hlk d_M_gap_65 ⟨⟨h1, hF1⟩, Or.inr ⟨k, hk, rfl, q, hq, rfl, Or.inr ⟨c5, Or.inl ⟨Or.inr (Or.inl c9), rfl⟩⟩⟩⟩
          · refine go_aload_n X (z := 0) d_M_gap_48 rfl rfl ?_
            refine go_get X u_M rfl 14 (by decide) gm_fl_M_42 rfl d_M_gap_49 h1.this rfl ?_
            refine go_iload_n X (z := 1) d_M_gap_52 rfl rfl ?_
            refine go_iald X 0 rfl d_M_gap_53 h1.a14 (vp_in_nI (by omega) (by decide)) ?_
            rw [nI_clamp (show (k + 1) < 2 ^ 31 by omega)]
            refine go_aload_n X (z := 0) d_M_gap_54 rfl rfl ?_
            refine go_get X u_M rfl 14 (by decide) gm_fl_M_42 rfl d_M_gap_55 h1.this rfl ?_
            refine go_iload_n X (z := 2) d_M_gap_58 rfl rfl ?_
            refine go_iald X 0 rfl d_M_gap_59 h1.a14 (vp_in_nI (by omega) (by decide)) ?_
            rw [nI_clamp (show (q + 1) < 2 ^ 31 by omega)]
            refine go_icmp_eq X (tgt := 66) d_M_gap_60 rfl (fun c10 => ?_) (fun c10 => ?_)
            · refine go_aload_n X (z := 0) d_M_gap_66 rfl rfl ?_
              refine go_get X u_M rfl 15 (by decide) gm_fl_M_45 rfl d_M_gap_67 h1.this rfl ?_
              refine go_iload_n X (z := 2) d_M_gap_70 rfl rfl ?_
              refine go_lald X 1 rfl d_M_gap_71 h1.a15 (vp_in_nI (by omega) (by decide)) ?_
              rw [nI_clamp (show (q + 1) < 2 ^ 31 by omega)]
              refine go_aload_n X (z := 0) d_M_gap_72 rfl rfl ?_
              refine go_get X u_M rfl 12 (by decide) gm_fl_M_36 rfl d_M_gap_73 h1.this rfl ?_
              refine go_iload_n X (z := 2) d_M_gap_76 rfl rfl ?_
              refine go_lald X 1 rfl d_M_gap_77 h1.a12 (vp_in_nI (by omega) (by decide)) ?_
              rw [nI_clamp (show (q + 1) < 2 ^ 31 by omega)]
              refine go_lsub X d_M_gap_78 ?_
              refine go_aload_n X (z := 0) d_M_gap_79 rfl rfl ?_
              refine go_get X u_M rfl 15 (by decide) gm_fl_M_45 rfl d_M_gap_80 h1.this rfl ?_
              refine go_iload_n X (z := 1) d_M_gap_83 rfl rfl ?_
              refine go_lald X 1 rfl d_M_gap_84 h1.a15 (vp_in_nI (by omega) (by decide)) ?_
              rw [nI_clamp (show (k + 1) < 2 ^ 31 by omega)]
              refine go_lsub X d_M_gap_85 ?_
              refine go_l2i X d_M_gap_86 rfl ?_
              exact go_retI X hr hlk d_M_gap_87 ⟨⟨h1, hF1⟩, Or.inr ⟨k, hk, rfl, q, hq, rfl, Or.inr ⟨c5, Or.inr ⟨c7, c9, c10, rfl⟩⟩⟩⟩
            · refine go_bipush X (v := (-13)) d_M_gap_63 (by decide) ?_
              exact go_retI X hr hlk d_M_gap_65 ⟨⟨h1, hF1⟩, Or.inr ⟨k, hk, rfl, q, hq, rfl, Or.inr ⟨c5, Or.inl ⟨Or.inr (Or.inr c10), rfl⟩⟩⟩⟩
      · refine go_bipush X (v := (-12)) d_M_gap_29 (by decide) ?_
        exact go_retI X hr hlk d_M_gap_31 ⟨⟨h1, hF1⟩, Or.inr ⟨k, hk, rfl, q, hq, rfl, Or.inl ⟨c5, rfl⟩⟩⟩
    · refine go_bipush X (v := (-11)) d_M_gap_21 (by decide) ?_
      exact go_retI X hr hlk d_M_gap_23 ⟨⟨h1, hF1⟩, Or.inl ⟨Or.inr (isIF_0 c4 (by have := hW.2.1; omega)), rfl⟩⟩
set_option maxHeartbeats 4000000 in
set_option maxRecDepth 100000 in
theorem c_M_join {l : Launch} {D : va_G} {dA : Nat → ClassId} {g : Nat → Option va_E}  (h : MRep dA ad g th now nb ni ed kn L J) (hW : MWf nb ni J) (x y : Int32) : CtI l D classes (tyL dA) y_M_join b_M_join 4 (some .int) rm_M_join [.ref (ad 0), .int x, .int y] g (fun r g' => ((MRep dA ad g' 0 now nb ni ed kn L J ∧ MFr ad g g') ∧ ((∀ k, k < nb → x ≠ nI k) ∨ (∀ k, k < nb → y ≠ nI k)) ∧ r = -11) ∨ (∃ k, k < nb ∧ x = nI k ∧ ∃ q, q < nb ∧ y = nI q ∧ (((MRep dA ad g' 0 now nb ni ed kn L J ∧ MFr ad g g') ∧ ¬ nI k < nI q ∧ r = -12) ∨ (nI k < nI q ∧ r = J 5 k ∧ MRep dA ad g' 0 now nb ni ed kn L (va_up J 5 (upd (J 5) k (nI q))) ∧ MFr ad g g')))) := by
  refine CtI.of (by decide) (Nat.le_of_ble_eq_true rfl) ?_
  intro p e s m below meth c X hr hlk hnm
  have hnb := hW.1
  have hni := hW.2.1
  refine go_aload_n X (z := 0) d_M_join_0 rfl rfl ?_
  refine go_iconst X (v := 0) d_M_join_1 (by decide) ?_
  refine go_put X u_M rfl 0 (by decide) gm_fl_M_69 rfl t_M t_M_ok n_M rfl rfl rfl d_M_join_2 h.this (Nat.le_of_ble_eq_true rfl) ?_
  refine go_gen (fun g1 e1 => ?_)
  have h1 : MRep dA ad g1 0 now nb ni ed kn L J := by rw [e1]; exact h.set0
  have hF1 : MFr ad g g1 := by rw [e1]; exact MFr.up rfl
  refine go_aload_n X (z := 0) d_M_join_5 rfl rfl ?_
  refine go_iload_n X (z := 1) d_M_join_6 rfl rfl ?_
  refine go_callI_V X (As := [.int x]) (rest := []) (c_M_isBelt h1 x) gm_ml_M_95 cw_M_isBelt ⟨by decide, by decide⟩ rfl h1.this rfl rfl (Nat.le_of_ble_eq_true rfl) d_M_join_7 ⟨by decide, by decide⟩ (fun ru1 gu1 hu1 => ?_)
  obtain ⟨rfl, rfl⟩ := hu1
  refine go_if_eq X (tgt := 21) d_M_join_10 rfl (fun c2 => ?_) (fun c2 => ?_)
  · refine go_bipush X (v := (-11)) d_M_join_21 (by decide) ?_
    exact go_retI X hr hlk d_M_join_23 (Or.inl ⟨⟨h1, hF1⟩, Or.inl (isBF_0 c2 (by have := hW.1; omega)), rfl⟩)
  · refine go_aload_n X (z := 0) d_M_join_13 rfl rfl ?_
    refine go_iload_n X (z := 2) d_M_join_14 rfl rfl ?_
    refine go_callI_V X (As := [.int y]) (rest := []) (c_M_isBelt h1 y) gm_ml_M_95 cw_M_isBelt ⟨by decide, by decide⟩ rfl h1.this rfl rfl (Nat.le_of_ble_eq_true rfl) d_M_join_15 ⟨by decide, by decide⟩ (fun ru3 gu3 hu3 => ?_)
    obtain ⟨rfl, rfl⟩ := hu3
    refine go_if_ne X (tgt := 24) d_M_join_18 rfl (fun c4 => ?_) (fun c4 => ?_)
    · obtain ⟨k, hk, rfl⟩ := isBF_1 c2 (by have := hW.1; omega)
      obtain ⟨q, hq, rfl⟩ := isBF_1 c4 (by have := hW.1; omega)
      refine go_iload_n X (z := 2) d_M_join_24 rfl rfl ?_
      refine go_iload_n X (z := 1) d_M_join_25 rfl rfl ?_
      refine go_icmp_gt X (tgt := 32) d_M_join_26 rfl (fun c5 => ?_) (fun c5 => ?_)
      · refine go_aload_n X (z := 0) d_M_join_32 rfl rfl ?_
        refine go_get X u_M rfl 5 (by decide) gm_fl_M_16 rfl d_M_join_33 h1.this rfl ?_
        refine go_iload_n X (z := 1) d_M_join_36 rfl rfl ?_
        refine go_iald X 0 rfl d_M_join_37 h1.a5 (vp_in_nI (by omega) (by decide)) ?_
        rw [nI_clamp (show k < 2 ^ 31 by omega)]
        refine go_topi (fun x6 ex6 => ?_)
        refine go_istore_n X (lv' := [(3, .int x6), (0, .ref (ad 0)), (1, .int ((nI k))), (2, .int ((nI q)))]) d_M_join_38 rfl (by decide) rfl ?_
        refine go_aload_n X (z := 1) d_M_join_39 rfl rfl ?_
        refine go_get X u_M rfl 5 (by decide) gm_fl_M_16 rfl d_M_join_40 h1.this rfl ?_
        refine go_iload_n X (z := 2) d_M_join_43 rfl rfl ?_
        refine go_iload_n X (z := 3) d_M_join_44 rfl rfl ?_
        refine go_topi (fun x7 ex7 => ?_)
        refine go_iast X 0 rfl d_M_join_45 h1.a5 (vp_in_nI (by omega) (by decide)) ?_
        refine go_gen (fun g8 eg8 => ?_)
        have eg8 : g8 = va_up g1 (ad 5) (some (.inl (dA 0, 12, .inl (upd ((J 5)) k x7)))) := by rw [eg8, nI_clamp (show k < 2 ^ 31 by omega)]
        have h9 : g8 (ad 0) = some (.inr (4, [.int 0, .long now, .int ((nI nb)), .ref (ad 3), .ref (ad 4), .ref (ad 5), .ref (ad 6), .ref (ad 7), .ref (ad 8), .ref (ad 9), .ref (ad 10), .int ((nI ni)), .ref (ad 12), .ref (ad 13), .ref (ad 14), .ref (ad 15), .ref (ad 16), .ref (ad 17), .ref (ad 18), .int ((nI ed)), .int kn, .ref (ad 21), .ref (ad 22), .ref (ad 23), .ref (ad 24)])) := by rw [eg8, va_up_ne _ _ (h1.ne 0 5)]; exact h1.this
        have h10 : g8 (ad 5) = some (.inl (dA 0, 12, .inl (upd ((J 5)) k x7))) := by rw [eg8]; exact va_up_self _ _ _
        refine go_iload_n X (z := 0) d_M_join_46 rfl rfl ?_
        subst ex6 ex7
        exact go_retI X hr hlk d_M_join_47 (Or.inr ⟨k, hk, rfl, q, hq, rfl, Or.inr ⟨c5, rfl, by rw [eg8]; exact h1.setJ 5 _, hF1.trans (by rw [eg8]; exact MFr.up rfl)⟩⟩)
      · refine go_bipush X (v := (-12)) d_M_join_29 (by decide) ?_
        exact go_retI X hr hlk d_M_join_31 (Or.inr ⟨k, hk, rfl, q, hq, rfl, Or.inl ⟨⟨h1, hF1⟩, c5, rfl⟩⟩)
    · refine go_bipush X (v := (-11)) d_M_join_21 (by decide) ?_
      exact go_retI X hr hlk d_M_join_23 (Or.inl ⟨⟨h1, hF1⟩, Or.inr (isBF_0 c4 (by have := hW.1; omega)), rfl⟩)
set_option maxHeartbeats 4000000 in
set_option maxRecDepth 100000 in
theorem c_M_slip {l : Launch} {D : va_G} {dA : Nat → ClassId} {g : Nat → Option va_E}  (h : MRep dA ad g th now nb ni ed kn L J) (hW : MWf nb ni J) (x : Int32) (by0 : Int64) : CtI l D classes (tyL dA) y_M_slip b_M_slip 6 (some .int) rm_M_slip [.ref (ad 0), .int x, .long by0] g (fun r g' => ((MRep dA ad g' 0 now nb ni ed kn L J ∧ MFr ad g g') ∧ (∀ k, k < ni → x ≠ nI (k + 1)) ∧ r = -11) ∨ (∃ k, k < ni ∧ x = nI (k + 1) ∧ (((MRep dA ad g' 0 now nb ni ed kn L J ∧ MFr ad g g') ∧ inF by0 0 1000000000 = 0 ∧ r = -12) ∨ ((MRep dA ad g' 0 now nb ni ed kn L J ∧ MFr ad g g') ∧ ¬ inF by0 0 1000000000 = 0 ∧ thereF now L J (k + 1) = 0 ∧ r = -13) ∨ (¬ inF by0 0 1000000000 = 0 ∧ ¬ thereF now L J (k + 1) = 0 ∧ r = (if L 15 (k + 1) ≤ by0 then L 15 (k + 1) else by0).toInt32 ∧ MRep dA ad g' 0 now nb ni ed kn (va_up L 15 (vp_updL (L 15) (k + 1) (L 15 (k + 1) - (if L 15 (k + 1) ≤ by0 then L 15 (k + 1) else by0)))) J ∧ MFr ad g g')))) := by
  refine CtI.of (by decide) (Nat.le_of_ble_eq_true rfl) ?_
  intro p e s m below meth c X hr hlk hnm
  have hnb := hW.1
  have hni := hW.2.1
  refine go_aload_n X (z := 0) d_M_slip_0 rfl rfl ?_
  refine go_iconst X (v := 0) d_M_slip_1 (by decide) ?_
  refine go_put X u_M rfl 0 (by decide) gm_fl_M_69 rfl t_M t_M_ok n_M rfl rfl rfl d_M_slip_2 h.this (Nat.le_of_ble_eq_true rfl) ?_
  refine go_gen (fun g1 e1 => ?_)
  have h1 : MRep dA ad g1 0 now nb ni ed kn L J := by rw [e1]; exact h.set0
  have hF1 : MFr ad g g1 := by rw [e1]; exact MFr.up rfl
  refine go_aload_n X (z := 0) d_M_slip_5 rfl rfl ?_
  refine go_iload_n X (z := 1) d_M_slip_6 rfl rfl ?_
  refine go_callI_V X (As := [.int x]) (rest := []) (c_M_isItem h1 x) gm_ml_M_145 cw_M_isItem ⟨by decide, by decide⟩ rfl h1.this rfl rfl (Nat.le_of_ble_eq_true rfl) d_M_slip_7 ⟨by decide, by decide⟩ (fun ru1 gu1 hu1 => ?_)
  obtain ⟨rfl, rfl⟩ := hu1
  refine go_if_ne X (tgt := 16) d_M_slip_10 rfl (fun c2 => ?_) (fun c2 => ?_)
  · obtain ⟨k, hk, rfl⟩ := isIF_1 c2 (by have := hW.2.1; omega)
    refine go_lload_n X (z := 2) d_M_slip_16 rfl rfl ?_
    refine go_lconst X (v := 0) d_M_slip_17 (by decide) ?_
    refine go_ldc2 X d_M_slip_18 gm_k_M_148 ?_
    refine go_callI_S X (As := [.long by0, .long 0, .long 1000000000]) (rest := []) (c_M_in by0 0 1000000000) gm_ml_M_85 cw_M_in ⟨by decide, by decide⟩ rfl rfl (Nat.le_of_ble_eq_true rfl) d_M_slip_21 ⟨by decide, by decide⟩ (fun ru3 gu3 hu3 => ?_)
    obtain ⟨rfl, rfl⟩ := hu3
    refine go_if_ne X (tgt := 30) d_M_slip_24 rfl (fun c4 => ?_) (fun c4 => ?_)
    · refine go_aload_n X (z := 0) d_M_slip_30 rfl rfl ?_
      refine go_iload_n X (z := 1) d_M_slip_31 rfl rfl ?_
      refine go_callI_V X (As := [.int ((nI (k + 1)))]) (rest := []) (c_M_isThere h1 (i := k + 1) (by omega)) gm_ml_M_111 cw_M_isThere ⟨by decide, by decide⟩ rfl h1.this rfl rfl (Nat.le_of_ble_eq_true rfl) d_M_slip_32 ⟨by decide, by decide⟩ (fun ru5 gu5 hu5 => ?_)
      obtain ⟨rfl, rfl⟩ := hu5
      refine go_if_ne X (tgt := 41) d_M_slip_35 rfl (fun c6 => ?_) (fun c6 => ?_)
      · refine go_lload_n X (z := 2) d_M_slip_41 rfl rfl ?_
        refine go_aload_n X (z := 0) d_M_slip_42 rfl rfl ?_
        refine go_get X u_M rfl 15 (by decide) gm_fl_M_45 rfl d_M_slip_43 h1.this rfl ?_
        refine go_iload_n X (z := 1) d_M_slip_46 rfl rfl ?_
        refine go_lald X 1 rfl d_M_slip_47 h1.a15 (vp_in_nI (by omega) (by decide)) ?_
        rw [nI_clamp (show (k + 1) < 2 ^ 31 by omega)]
        refine go_lif_ge X (tgt := 56) d_M_slip_48 d_M_slip_49 rfl (fun c7 => ?_) (fun c7 => ?_)
        · refine go_aload_n X (z := 0) d_M_slip_56 rfl rfl ?_
          refine go_get X u_M rfl 15 (by decide) gm_fl_M_45 rfl d_M_slip_57 h1.this rfl ?_
          refine go_iload_n X (z := 1) d_M_slip_60 rfl rfl ?_
          refine go_lald X 1 rfl d_M_slip_61 h1.a15 (vp_in_nI (by omega) (by decide)) ?_
          rw [nI_clamp (show (k + 1) < 2 ^ 31 by omega)]
          refine go_topl (fun x8 ex8 => ?_)
          refine go_lstore X (lv' := [(4, .long x8), (0, .ref (ad 0)), (1, .int ((nI (k + 1)))), (2, .long by0)]) d_M_slip_62 (by decide) rfl ?_
          refine go_aload_n X (z := 1) d_M_slip_64 rfl rfl ?_
          refine go_get X u_M rfl 15 (by decide) gm_fl_M_45 rfl d_M_slip_65 h1.this rfl ?_
          refine go_iload_n X (z := 2) d_M_slip_68 rfl rfl ?_
          refine go_aload_n X (z := 1) d_M_slip_69 rfl rfl ?_
          refine go_get X u_M rfl 15 (by decide) gm_fl_M_45 rfl d_M_slip_70 h1.this rfl ?_
          refine go_iload_n X (z := 2) d_M_slip_73 rfl rfl ?_
          refine go_lald X 1 rfl d_M_slip_74 h1.a15 (vp_in_nI (by omega) (by decide)) ?_
          rw [nI_clamp (show (k + 1) < 2 ^ 31 by omega)]
          refine go_lload X (z := 0) d_M_slip_75 rfl ?_
          refine go_lsub X d_M_slip_77 ?_
          refine go_topl (fun x9 ex9 => ?_)
          refine go_last X 1 rfl d_M_slip_78 h1.a15 (vp_in_nI (by omega) (by decide)) ?_
          refine go_gen (fun g10 eg10 => ?_)
          have eg10 : g10 = va_up g1 (ad 15) (some (.inl (dA 1, 61, .inr (.inl (vp_updL ((L 15)) (k + 1) x9))))) := by rw [eg10, nI_clamp (show k + 1 < 2 ^ 31 by omega)]
          have h11 : g10 (ad 0) = some (.inr (4, [.int 0, .long now, .int ((nI nb)), .ref (ad 3), .ref (ad 4), .ref (ad 5), .ref (ad 6), .ref (ad 7), .ref (ad 8), .ref (ad 9), .ref (ad 10), .int ((nI ni)), .ref (ad 12), .ref (ad 13), .ref (ad 14), .ref (ad 15), .ref (ad 16), .ref (ad 17), .ref (ad 18), .int ((nI ed)), .int kn, .ref (ad 21), .ref (ad 22), .ref (ad 23), .ref (ad 24)])) := by rw [eg10, va_up_ne _ _ (h1.ne 0 15)]; exact h1.this
          have h12 : g10 (ad 15) = some (.inl (dA 1, 61, .inr (.inl (vp_updL ((L 15)) (k + 1) x9)))) := by rw [eg10]; exact va_up_self _ _ _
          refine go_lload X (z := 0) d_M_slip_79 rfl ?_
          refine go_l2i X d_M_slip_81 rfl ?_
          subst ex8 ex9
          exact go_retI X hr hlk d_M_slip_82 (Or.inr ⟨k, hk, rfl, Or.inr (Or.inr ⟨c4, c6, by rw [if_pos c7], by rw [if_pos c7, eg10]; exact h1.setL 15 _, hF1.trans (by rw [eg10]; exact MFr.up rfl)⟩)⟩)
        · refine go_lload_n X (z := 2) d_M_slip_52 rfl rfl ?_
          refine go_goto X (tgt := 62) d_M_slip_53 rfl ?_
          refine go_lstore X (lv' := [(4, .long by0), (0, .ref (ad 0)), (1, .int ((nI (k + 1)))), (2, .long by0)]) d_M_slip_62 (by decide) rfl ?_
          refine go_aload_n X (z := 1) d_M_slip_64 rfl rfl ?_
          refine go_get X u_M rfl 15 (by decide) gm_fl_M_45 rfl d_M_slip_65 h1.this rfl ?_
          refine go_iload_n X (z := 2) d_M_slip_68 rfl rfl ?_
          refine go_aload_n X (z := 1) d_M_slip_69 rfl rfl ?_
          refine go_get X u_M rfl 15 (by decide) gm_fl_M_45 rfl d_M_slip_70 h1.this rfl ?_
          refine go_iload_n X (z := 2) d_M_slip_73 rfl rfl ?_
          refine go_lald X 1 rfl d_M_slip_74 h1.a15 (vp_in_nI (by omega) (by decide)) ?_
          rw [nI_clamp (show (k + 1) < 2 ^ 31 by omega)]
          refine go_lload X (z := 0) d_M_slip_75 rfl ?_
          refine go_lsub X d_M_slip_77 ?_
          refine go_topl (fun x13 ex13 => ?_)
          refine go_last X 1 rfl d_M_slip_78 h1.a15 (vp_in_nI (by omega) (by decide)) ?_
          refine go_gen (fun g14 eg14 => ?_)
          have eg14 : g14 = va_up g1 (ad 15) (some (.inl (dA 1, 61, .inr (.inl (vp_updL ((L 15)) (k + 1) x13))))) := by rw [eg14, nI_clamp (show k + 1 < 2 ^ 31 by omega)]
          have h15 : g14 (ad 0) = some (.inr (4, [.int 0, .long now, .int ((nI nb)), .ref (ad 3), .ref (ad 4), .ref (ad 5), .ref (ad 6), .ref (ad 7), .ref (ad 8), .ref (ad 9), .ref (ad 10), .int ((nI ni)), .ref (ad 12), .ref (ad 13), .ref (ad 14), .ref (ad 15), .ref (ad 16), .ref (ad 17), .ref (ad 18), .int ((nI ed)), .int kn, .ref (ad 21), .ref (ad 22), .ref (ad 23), .ref (ad 24)])) := by rw [eg14, va_up_ne _ _ (h1.ne 0 15)]; exact h1.this
          have h16 : g14 (ad 15) = some (.inl (dA 1, 61, .inr (.inl (vp_updL ((L 15)) (k + 1) x13)))) := by rw [eg14]; exact va_up_self _ _ _
          refine go_lload X (z := 0) d_M_slip_79 rfl ?_
          refine go_l2i X d_M_slip_81 rfl ?_
          subst ex13
          exact go_retI X hr hlk d_M_slip_82 (Or.inr ⟨k, hk, rfl, Or.inr (Or.inr ⟨c4, c6, by rw [if_neg c7], by rw [if_neg c7, eg14]; exact h1.setL 15 _, hF1.trans (by rw [eg14]; exact MFr.up rfl)⟩)⟩)
      · refine go_bipush X (v := (-13)) d_M_slip_38 (by decide) ?_
        exact go_retI X hr hlk d_M_slip_40 (Or.inr ⟨k, hk, rfl, Or.inr (Or.inl ⟨⟨h1, hF1⟩, c4, c6, rfl⟩)⟩)
    · refine go_bipush X (v := (-12)) d_M_slip_27 (by decide) ?_
      exact go_retI X hr hlk d_M_slip_29 (Or.inr ⟨k, hk, rfl, Or.inl ⟨⟨h1, hF1⟩, c4, rfl⟩⟩)
  · refine go_bipush X (v := (-11)) d_M_slip_13 (by decide) ?_
    exact go_retI X hr hlk d_M_slip_15 (Or.inl ⟨⟨h1, hF1⟩, isIF_0 c2 (by have := hW.2.1; omega), rfl⟩)
set_option maxHeartbeats 4000000 in
set_option maxRecDepth 100000 in
theorem c_M_step {l : Launch} {D : va_G} {dA : Nat → ClassId} {g : Nat → Option va_E}  (h : MRep dA ad g th now nb ni ed kn L J) (hW : MWf nb ni J) (hed : ∀ t : Int64, now ≤ t → t ≤ 1000000 → ed + 120 * (t.toInt - now.toInt).toNat ≤ 2000000000) (t : Int64) : CtI l D classes (tyL dA) y_M_step b_M_step 4 (some .int) rm_M_step [.ref (ad 0), .long t] g (fun r g' => ((MRep dA ad g' 0 now nb ni ed kn L J ∧ MFr ad g g') ∧ inF t now 1000000 = 0 ∧ r = -12) ∨ (¬ inF t now 1000000 = 0 ∧ r = nI (msN nb ni (t.toInt - now.toInt).toNat now (L, J, ed)).2.2 - kn ∧ MRep dA ad g' 0 t nb ni (msN nb ni (t.toInt - now.toInt).toNat now (L, J, ed)).2.2 (nI (msN nb ni (t.toInt - now.toInt).toNat now (L, J, ed)).2.2) (msN nb ni (t.toInt - now.toInt).toNat now (L, J, ed)).1 (msN nb ni (t.toInt - now.toInt).toNat now (L, J, ed)).2.1 ∧ MFr ad g g')) := by
  refine CtI.of (by decide) (Nat.le_of_ble_eq_true rfl) ?_
  intro p e s m below meth c X hr hlk hnm
  refine go_aload_n X (z := 0) d_M_step_0 rfl rfl ?_
  refine go_iconst X (v := 0) d_M_step_1 (by decide) ?_
  refine go_put X u_M rfl 0 (by decide) gm_fl_M_69 rfl t_M t_M_ok n_M rfl rfl rfl d_M_step_2 h.this (Nat.le_of_ble_eq_true rfl) ?_
  refine go_gen (fun g1 e1 => ?_)
  have h1 : MRep dA ad g1 0 now nb ni ed kn L J := by rw [e1]; exact h.set0
  have hF1 : MFr ad g g1 := by rw [e1]; exact MFr.up rfl
  refine go_aload_n X (z := 0) d_M_step_5 rfl rfl ?_
  refine go_lload_n X (z := 1) d_M_step_6 rfl rfl ?_
  refine go_callI_V X (As := [.long t]) (rest := []) (c_M_isTime h1 t) gm_ml_M_99 cw_M_isTime ⟨by decide, by decide⟩ rfl h1.this rfl rfl (Nat.le_of_ble_eq_true rfl) d_M_step_7 ⟨by decide, by decide⟩ (fun ru1 gu1 hu1 => ?_)
  obtain ⟨rfl, rfl⟩ := hu1
  refine go_if_ne X (tgt := 16) d_M_step_10 rfl (fun c2 => ?_) (fun c2 => ?_)
  · refine go_aload_n X (z := 0) d_M_step_16 rfl rfl ?_
    refine go_lload_n X (z := 1) d_M_step_17 rfl rfl ?_
    refine go_callV_V X (As := [.long t]) (rest := []) (c_M_pass h1 hW t (inF_1 c2).1 (hed t (inF_1 c2).1 (inF_1 c2).2)) gm_ml_M_138 cw_M_pass ⟨by decide, by decide⟩ rfl h1.this rfl rfl (Nat.le_of_ble_eq_true rfl) d_M_step_18 ⟨by decide, by decide⟩ (fun gz hz => ?_)
    obtain ⟨hz, hzF⟩ := hz
    refine go_aload_n X (z := 0) d_M_step_21 rfl rfl ?_
    refine go_get X u_M rfl 19 (by decide) gm_fl_M_116 rfl d_M_step_22 hz.this rfl ?_
    refine go_aload_n X (z := 0) d_M_step_25 rfl rfl ?_
    refine go_get X u_M rfl 20 (by decide) gm_fl_M_142 rfl d_M_step_26 hz.this rfl ?_
    refine go_isub X d_M_step_29 ?_
    refine go_topi (fun x3 ex3 => ?_)
    refine go_istore_n X (lv' := [(3, .int x3), (0, .ref (ad 0)), (1, .long t)]) d_M_step_30 rfl (by decide) rfl ?_
    refine go_aload_n X (z := 1) d_M_step_31 rfl rfl ?_
    refine go_aload_n X (z := 1) d_M_step_32 rfl rfl ?_
    refine go_get X u_M rfl 19 (by decide) gm_fl_M_116 rfl d_M_step_33 hz.this rfl ?_
    refine go_topi (fun x4 ex4 => ?_)
    refine go_put X u_M rfl 20 (by decide) gm_fl_M_142 rfl t_M t_M_ok n_M rfl rfl rfl d_M_step_36 hz.this (Nat.le_of_ble_eq_true rfl) ?_
    refine go_gen (fun g5 eg5 => ?_)
    have eg5 : g5 = va_up gz (ad 0) (some (.inr (4, [.int 0, .long t, .int ((nI nb)), .ref (ad 3), .ref (ad 4), .ref (ad 5), .ref (ad 6), .ref (ad 7), .ref (ad 8), .ref (ad 9), .ref (ad 10), .int ((nI ni)), .ref (ad 12), .ref (ad 13), .ref (ad 14), .ref (ad 15), .ref (ad 16), .ref (ad 17), .ref (ad 18), .int ((nI (msN nb ni (t.toInt - now.toInt).toNat now (L, J, ed)).2.2)), .int x4, .ref (ad 21), .ref (ad 22), .ref (ad 23), .ref (ad 24)]))) := eg5
    have h6 : g5 (ad 6) = some (.inl (dA 1, 12, .inr (.inl (((msN nb ni (t.toInt - now.toInt).toNat now (L, J, ed)).1 6))))) := by rw [eg5, va_up_ne _ _ (hz.ne 6 0)]; exact hz.a6
    have h7 : g5 (ad 7) = some (.inl (dA 2, 12, .inl (((msN nb ni (t.toInt - now.toInt).toNat now (L, J, ed)).2.1 7)))) := by rw [eg5, va_up_ne _ _ (hz.ne 7 0)]; exact hz.a7
    have h8 : g5 (ad 8) = some (.inl (dA 0, 12, .inl (((msN nb ni (t.toInt - now.toInt).toNat now (L, J, ed)).2.1 8)))) := by rw [eg5, va_up_ne _ _ (hz.ne 8 0)]; exact hz.a8
    have h9 : g5 (ad 9) = some (.inl (dA 0, 12, .inl (((msN nb ni (t.toInt - now.toInt).toNat now (L, J, ed)).2.1 9)))) := by rw [eg5, va_up_ne _ _ (hz.ne 9 0)]; exact hz.a9
    have h10 : g5 (ad 0) = some (.inr (4, [.int 0, .long t, .int ((nI nb)), .ref (ad 3), .ref (ad 4), .ref (ad 5), .ref (ad 6), .ref (ad 7), .ref (ad 8), .ref (ad 9), .ref (ad 10), .int ((nI ni)), .ref (ad 12), .ref (ad 13), .ref (ad 14), .ref (ad 15), .ref (ad 16), .ref (ad 17), .ref (ad 18), .int ((nI (msN nb ni (t.toInt - now.toInt).toNat now (L, J, ed)).2.2)), .int x4, .ref (ad 21), .ref (ad 22), .ref (ad 23), .ref (ad 24)])) := by rw [eg5]; exact va_up_self _ _ _
    refine go_iload_n X (z := 0) d_M_step_39 rfl rfl ?_
    subst ex3 ex4
    exact go_retI X hr hlk d_M_step_40 (Or.inr ⟨c2, rfl, by rw [eg5]; exact hz.set0, hF1.trans (hzF.trans (by rw [eg5]; exact MFr.up rfl))⟩)
  · refine go_bipush X (v := (-12)) d_M_step_13 (by decide) ?_
    exact go_retI X hr hlk d_M_step_15 (Or.inl ⟨⟨h1, hF1⟩, c2, rfl⟩)
set_option maxHeartbeats 4000000 in
set_option maxRecDepth 100000 in
theorem c_M_stop {l : Launch} {D : va_G} {dA : Nat → ClassId} {g : Nat → Option va_E}  (h : MRep dA ad g th now nb ni ed kn L J) (hW : MWf nb ni J) (hed : ∀ t : Int64, now ≤ t → t ≤ 1000000 → ed + 120 * (t.toInt - now.toInt).toNat ≤ 2000000000) (x on : Int32) (hon : vp_nar .boolean on = on) (t : Int64) : CtI l D classes (tyL dA) y_M_stop b_M_stop 5 (some .int) rm_M_stop [.ref (ad 0), .int x, .int on, .long t] g (fun r g' => ((MRep dA ad g' 0 now nb ni ed kn L J ∧ MFr ad g g') ∧ (∀ k, k < nb → x ≠ nI k) ∧ r = -11) ∨ (∃ k, k < nb ∧ x = nI k ∧ (((MRep dA ad g' 0 now nb ni ed kn L J ∧ MFr ad g g') ∧ inF t now 1000000 = 0 ∧ r = -12) ∨ ((MRep dA ad g' 0 now nb ni ed kn L J ∧ MFr ad g g') ∧ ¬ inF t now 1000000 = 0 ∧ ¬ J 7 k = on ∧ J 9 k = 100 ∧ r = -14) ∨ (¬ inF t now 1000000 = 0 ∧ (J 7 k = on ∨ ¬ J 9 k = 100) ∧ (((msN nb ni (t.toInt - now.toInt).toNat now (L, J, ed)).2.1 7 k = on ∧ r = 0 ∧ MRep dA ad g' 0 t nb ni (msN nb ni (t.toInt - now.toInt).toNat now (L, J, ed)).2.2 kn (msN nb ni (t.toInt - now.toInt).toNat now (L, J, ed)).1 (msN nb ni (t.toInt - now.toInt).toNat now (L, J, ed)).2.1 ∧ MFr ad g g') ∨ (¬ (msN nb ni (t.toInt - now.toInt).toNat now (L, J, ed)).2.1 7 k = on ∧ r = 1 ∧ MRep dA ad g' 0 t nb ni (msN nb ni (t.toInt - now.toInt).toNat now (L, J, ed)).2.2 kn (va_up (msN nb ni (t.toInt - now.toInt).toNat now (L, J, ed)).1 6 (vp_updL ((msN nb ni (t.toInt - now.toInt).toNat now (L, J, ed)).1 6) k t)) (va_up (va_up (va_up (msN nb ni (t.toInt - now.toInt).toNat now (L, J, ed)).2.1 8 (upd ((msN nb ni (t.toInt - now.toInt).toNat now (L, J, ed)).2.1 8) k (bfM (msN nb ni (t.toInt - now.toInt).toNat now (L, J, ed)).1 (msN nb ni (t.toInt - now.toInt).toNat now (L, J, ed)).2.1 k t))) 7 (upd ((msN nb ni (t.toInt - now.toInt).toNat now (L, J, ed)).2.1 7) k on)) 9 (upd ((msN nb ni (t.toInt - now.toInt).toNat now (L, J, ed)).2.1 9) k ((msN nb ni (t.toInt - now.toInt).toNat now (L, J, ed)).2.1 9 k + 1))) ∧ MFr ad g g')))))) := by
  refine CtI.of (by decide) (Nat.le_of_ble_eq_true rfl) ?_
  intro p e s m below meth c X hr hlk hnm
  have hnb := hW.1
  have hni := hW.2.1
  refine go_aload_n X (z := 0) d_M_stop_0 rfl rfl ?_
  refine go_iconst X (v := 0) d_M_stop_1 (by decide) ?_
  refine go_put X u_M rfl 0 (by decide) gm_fl_M_69 rfl t_M t_M_ok n_M rfl rfl rfl d_M_stop_2 h.this (Nat.le_of_ble_eq_true rfl) ?_
  refine go_gen (fun g1 e1 => ?_)
  have h1 : MRep dA ad g1 0 now nb ni ed kn L J := by rw [e1]; exact h.set0
  have hF1 : MFr ad g g1 := by rw [e1]; exact MFr.up rfl
  refine go_aload_n X (z := 0) d_M_stop_5 rfl rfl ?_
  refine go_iload_n X (z := 1) d_M_stop_6 rfl rfl ?_
  refine go_callI_V X (As := [.int x]) (rest := []) (c_M_isBelt h1 x) gm_ml_M_95 cw_M_isBelt ⟨by decide, by decide⟩ rfl h1.this rfl rfl (Nat.le_of_ble_eq_true rfl) d_M_stop_7 ⟨by decide, by decide⟩ (fun ru1 gu1 hu1 => ?_)
  obtain ⟨rfl, rfl⟩ := hu1
  refine go_if_ne X (tgt := 16) d_M_stop_10 rfl (fun c2 => ?_) (fun c2 => ?_)
  · obtain ⟨k, hk, rfl⟩ := isBF_1 c2 (by have := hW.1; omega)
    refine go_aload_n X (z := 0) d_M_stop_16 rfl rfl ?_
    refine go_lload_n X (z := 3) d_M_stop_17 rfl rfl ?_
    refine go_callI_V X (As := [.long t]) (rest := []) (c_M_isTime h1 t) gm_ml_M_99 cw_M_isTime ⟨by decide, by decide⟩ rfl h1.this rfl rfl (Nat.le_of_ble_eq_true rfl) d_M_stop_18 ⟨by decide, by decide⟩ (fun ru3 gu3 hu3 => ?_)
    obtain ⟨rfl, rfl⟩ := hu3
    refine go_if_ne X (tgt := 27) d_M_stop_21 rfl (fun c4 => ?_) (fun c4 => ?_)
    · refine go_aload_n X (z := 0) d_M_stop_27 rfl rfl ?_
      refine go_get X u_M rfl 7 (by decide) gm_fl_M_23 rfl d_M_stop_28 h1.this rfl ?_
      refine go_iload_n X (z := 1) d_M_stop_31 rfl rfl ?_
      refine go_zald X 2 rfl d_M_stop_32 h1.a7 (vp_in_nI (by omega) (by decide)) ?_
      rw [nI_clamp (show k < 2 ^ 31 by omega)]
      refine go_iload_n X (z := 2) d_M_stop_33 rfl rfl ?_
      refine go_icmp_eq X (tgt := 51) d_M_stop_34 rfl (fun c5 => ?_) (fun c5 => ?_)
      · refine go_aload_n X (z := 0) d_M_stop_51 rfl rfl ?_
        refine go_lload_n X (z := 3) d_M_stop_52 rfl rfl ?_
        refine go_callV_V X (As := [.long t]) (rest := []) (c_M_pass h1 hW t (inF_1 c4).1 (hed t (inF_1 c4).1 (inF_1 c4).2)) gm_ml_M_138 cw_M_pass ⟨by decide, by decide⟩ rfl h1.this rfl rfl (Nat.le_of_ble_eq_true rfl) d_M_stop_53 ⟨by decide, by decide⟩ (fun gz hz => ?_)
        obtain ⟨hz, hzF⟩ := hz
        refine go_aload_n X (z := 0) d_M_stop_56 rfl rfl ?_
        refine go_get X u_M rfl 7 (by decide) gm_fl_M_23 rfl d_M_stop_57 hz.this rfl ?_
        refine go_iload_n X (z := 1) d_M_stop_60 rfl rfl ?_
        refine go_zald X 2 rfl d_M_stop_61 hz.a7 (vp_in_nI (by omega) (by decide)) ?_
        rw [nI_clamp (show k < 2 ^ 31 by omega)]
        refine go_iload_n X (z := 2) d_M_stop_62 rfl rfl ?_
        refine go_icmp_ne X (tgt := 68) d_M_stop_63 rfl (fun c6 => ?_) (fun c6 => ?_)
        · refine go_aload_n X (z := 0) d_M_stop_68 rfl rfl ?_
          refine go_get X u_M rfl 8 (by decide) gm_fl_M_27 rfl d_M_stop_69 hz.this rfl ?_
          refine go_iload_n X (z := 1) d_M_stop_72 rfl rfl ?_
          refine go_lload_n X (z := 3) d_M_stop_73 rfl rfl ?_
          refine go_lconst X (v := 0) d_M_stop_74 (by decide) ?_
          refine go_lif_ne X (tgt := 84) d_M_stop_75 d_M_stop_76 rfl (fun c7 => ?_) (fun c7 => ?_)
          · refine go_lload_n X (z := 3) d_M_stop_84 rfl rfl ?_
            refine go_aload_n X (z := 0) d_M_stop_85 rfl rfl ?_
            refine go_get X u_M rfl 6 (by decide) gm_fl_M_20 rfl d_M_stop_86 hz.this rfl ?_
            refine go_iload_n X (z := 1) d_M_stop_89 rfl rfl ?_
            refine go_lald X 1 rfl d_M_stop_90 hz.a6 (vp_in_nI (by omega) (by decide)) ?_
            rw [nI_clamp (show k < 2 ^ 31 by omega)]
            refine go_lif_le X (tgt := 106) d_M_stop_91 d_M_stop_92 rfl (fun c8 => ?_) (fun c8 => ?_)
            · refine go_aload_n X (z := 0) d_M_stop_106 rfl rfl ?_
              refine go_get X u_M rfl 8 (by decide) gm_fl_M_27 rfl d_M_stop_107 hz.this rfl ?_
              refine go_iload_n X (z := 1) d_M_stop_110 rfl rfl ?_
              refine go_iald X 0 rfl d_M_stop_111 hz.a8 (vp_in_nI (by omega) (by decide)) ?_
              rw [nI_clamp (show k < 2 ^ 31 by omega)]
              refine go_topi (fun x9 ex9 => ?_)
              refine go_iast X 0 rfl d_M_stop_112 hz.a8 (vp_in_nI (by omega) (by decide)) ?_
              refine go_gen (fun g10 eg10 => ?_)
              have eg10 : g10 = va_up gz (ad 8) (some (.inl (dA 0, 12, .inl (upd (((msN nb ni (t.toInt - now.toInt).toNat now (L, J, ed)).2.1 8)) k x9)))) := by rw [eg10, nI_clamp (show k < 2 ^ 31 by omega)]
              have h11 : g10 (ad 0) = some (.inr (4, [.int 0, .long t, .int ((nI nb)), .ref (ad 3), .ref (ad 4), .ref (ad 5), .ref (ad 6), .ref (ad 7), .ref (ad 8), .ref (ad 9), .ref (ad 10), .int ((nI ni)), .ref (ad 12), .ref (ad 13), .ref (ad 14), .ref (ad 15), .ref (ad 16), .ref (ad 17), .ref (ad 18), .int ((nI (msN nb ni (t.toInt - now.toInt).toNat now (L, J, ed)).2.2)), .int kn, .ref (ad 21), .ref (ad 22), .ref (ad 23), .ref (ad 24)])) := by rw [eg10, va_up_ne _ _ (hz.ne 0 8)]; exact hz.this
              have h12 : g10 (ad 6) = some (.inl (dA 1, 12, .inr (.inl (((msN nb ni (t.toInt - now.toInt).toNat now (L, J, ed)).1 6))))) := by rw [eg10, va_up_ne _ _ (hz.ne 6 8)]; exact hz.a6
              have h13 : g10 (ad 7) = some (.inl (dA 2, 12, .inl (((msN nb ni (t.toInt - now.toInt).toNat now (L, J, ed)).2.1 7)))) := by rw [eg10, va_up_ne _ _ (hz.ne 7 8)]; exact hz.a7
              have h14 : g10 (ad 9) = some (.inl (dA 0, 12, .inl (((msN nb ni (t.toInt - now.toInt).toNat now (L, J, ed)).2.1 9)))) := by rw [eg10, va_up_ne _ _ (hz.ne 9 8)]; exact hz.a9
              have h15 : g10 (ad 8) = some (.inl (dA 0, 12, .inl (upd (((msN nb ni (t.toInt - now.toInt).toNat now (L, J, ed)).2.1 8)) k x9))) := by rw [eg10]; exact va_up_self _ _ _
              refine go_aload_n X (z := 0) d_M_stop_113 rfl rfl ?_
              refine go_get X u_M rfl 6 (by decide) gm_fl_M_20 rfl d_M_stop_114 h11 rfl ?_
              refine go_iload_n X (z := 1) d_M_stop_117 rfl rfl ?_
              refine go_lload_n X (z := 3) d_M_stop_118 rfl rfl ?_
              refine go_last X 1 rfl d_M_stop_119 h12 (vp_in_nI (by omega) (by decide)) ?_
              refine go_gen (fun g16 eg16 => ?_)
              have eg16 : g16 = va_up g10 (ad 6) (some (.inl (dA 1, 12, .inr (.inl (vp_updL (((msN nb ni (t.toInt - now.toInt).toNat now (L, J, ed)).1 6)) k t))))) := by rw [eg16, nI_clamp (show k < 2 ^ 31 by omega)]
              have h17 : g16 (ad 0) = some (.inr (4, [.int 0, .long t, .int ((nI nb)), .ref (ad 3), .ref (ad 4), .ref (ad 5), .ref (ad 6), .ref (ad 7), .ref (ad 8), .ref (ad 9), .ref (ad 10), .int ((nI ni)), .ref (ad 12), .ref (ad 13), .ref (ad 14), .ref (ad 15), .ref (ad 16), .ref (ad 17), .ref (ad 18), .int ((nI (msN nb ni (t.toInt - now.toInt).toNat now (L, J, ed)).2.2)), .int kn, .ref (ad 21), .ref (ad 22), .ref (ad 23), .ref (ad 24)])) := by rw [eg16, va_up_ne _ _ (hz.ne 0 6)]; exact h11
              have h18 : g16 (ad 7) = some (.inl (dA 2, 12, .inl (((msN nb ni (t.toInt - now.toInt).toNat now (L, J, ed)).2.1 7)))) := by rw [eg16, va_up_ne _ _ (hz.ne 7 6)]; exact h13
              have h19 : g16 (ad 8) = some (.inl (dA 0, 12, .inl (upd (((msN nb ni (t.toInt - now.toInt).toNat now (L, J, ed)).2.1 8)) k x9))) := by rw [eg16, va_up_ne _ _ (hz.ne 8 6)]; exact h15
              have h20 : g16 (ad 9) = some (.inl (dA 0, 12, .inl (((msN nb ni (t.toInt - now.toInt).toNat now (L, J, ed)).2.1 9)))) := by rw [eg16, va_up_ne _ _ (hz.ne 9 6)]; exact h14
              have h21 : g16 (ad 6) = some (.inl (dA 1, 12, .inr (.inl (vp_updL (((msN nb ni (t.toInt - now.toInt).toNat now (L, J, ed)).1 6)) k t)))) := by rw [eg16]; exact va_up_self _ _ _
              refine go_aload_n X (z := 0) d_M_stop_120 rfl rfl ?_
              refine go_get X u_M rfl 7 (by decide) gm_fl_M_23 rfl d_M_stop_121 h17 rfl ?_
              refine go_iload_n X (z := 1) d_M_stop_124 rfl rfl ?_
              refine go_iload_n X (z := 2) d_M_stop_125 rfl rfl ?_
              refine go_zast X 2 rfl d_M_stop_126 h18 (vp_in_nI (by omega) (by decide)) ?_
              refine go_gen (fun g22 eg22 => ?_)
              have eg22 : g22 = va_up g16 (ad 7) (some (.inl (dA 2, 12, .inl (upd (((msN nb ni (t.toInt - now.toInt).toNat now (L, J, ed)).2.1 7)) k on)))) := by rw [eg22, nI_clamp (show k < 2 ^ 31 by omega), hon]
              have h23 : g22 (ad 0) = some (.inr (4, [.int 0, .long t, .int ((nI nb)), .ref (ad 3), .ref (ad 4), .ref (ad 5), .ref (ad 6), .ref (ad 7), .ref (ad 8), .ref (ad 9), .ref (ad 10), .int ((nI ni)), .ref (ad 12), .ref (ad 13), .ref (ad 14), .ref (ad 15), .ref (ad 16), .ref (ad 17), .ref (ad 18), .int ((nI (msN nb ni (t.toInt - now.toInt).toNat now (L, J, ed)).2.2)), .int kn, .ref (ad 21), .ref (ad 22), .ref (ad 23), .ref (ad 24)])) := by rw [eg22, va_up_ne _ _ (hz.ne 0 7)]; exact h17
              have h24 : g22 (ad 6) = some (.inl (dA 1, 12, .inr (.inl (vp_updL (((msN nb ni (t.toInt - now.toInt).toNat now (L, J, ed)).1 6)) k t)))) := by rw [eg22, va_up_ne _ _ (hz.ne 6 7)]; exact h21
              have h25 : g22 (ad 8) = some (.inl (dA 0, 12, .inl (upd (((msN nb ni (t.toInt - now.toInt).toNat now (L, J, ed)).2.1 8)) k x9))) := by rw [eg22, va_up_ne _ _ (hz.ne 8 7)]; exact h19
              have h26 : g22 (ad 9) = some (.inl (dA 0, 12, .inl (((msN nb ni (t.toInt - now.toInt).toNat now (L, J, ed)).2.1 9)))) := by rw [eg22, va_up_ne _ _ (hz.ne 9 7)]; exact h20
              have h27 : g22 (ad 7) = some (.inl (dA 2, 12, .inl (upd (((msN nb ni (t.toInt - now.toInt).toNat now (L, J, ed)).2.1 7)) k on))) := by rw [eg22]; exact va_up_self _ _ _
              refine go_aload_n X (z := 0) d_M_stop_127 rfl rfl ?_
              refine go_get X u_M rfl 9 (by decide) gm_fl_M_30 rfl d_M_stop_128 h23 rfl ?_
              refine go_iload_n X (z := 1) d_M_stop_131 rfl rfl ?_
              refine go_dup2 X d_M_stop_132 rfl rfl ?_
              refine go_iald X 0 rfl d_M_stop_133 h26 (vp_in_nI (by omega) (by decide)) ?_
              rw [nI_clamp (show k < 2 ^ 31 by omega)]
              refine go_iconst X (v := 1) d_M_stop_134 (by decide) ?_
              refine go_iadd X d_M_stop_135 ?_
              refine go_topi (fun x28 ex28 => ?_)
              refine go_iast X 0 rfl d_M_stop_136 h26 (vp_in_nI (by omega) (by decide)) ?_
              refine go_gen (fun g29 eg29 => ?_)
              have eg29 : g29 = va_up g22 (ad 9) (some (.inl (dA 0, 12, .inl (upd (((msN nb ni (t.toInt - now.toInt).toNat now (L, J, ed)).2.1 9)) k x28)))) := by rw [eg29, nI_clamp (show k < 2 ^ 31 by omega)]
              have h30 : g29 (ad 0) = some (.inr (4, [.int 0, .long t, .int ((nI nb)), .ref (ad 3), .ref (ad 4), .ref (ad 5), .ref (ad 6), .ref (ad 7), .ref (ad 8), .ref (ad 9), .ref (ad 10), .int ((nI ni)), .ref (ad 12), .ref (ad 13), .ref (ad 14), .ref (ad 15), .ref (ad 16), .ref (ad 17), .ref (ad 18), .int ((nI (msN nb ni (t.toInt - now.toInt).toNat now (L, J, ed)).2.2)), .int kn, .ref (ad 21), .ref (ad 22), .ref (ad 23), .ref (ad 24)])) := by rw [eg29, va_up_ne _ _ (hz.ne 0 9)]; exact h23
              have h31 : g29 (ad 6) = some (.inl (dA 1, 12, .inr (.inl (vp_updL (((msN nb ni (t.toInt - now.toInt).toNat now (L, J, ed)).1 6)) k t)))) := by rw [eg29, va_up_ne _ _ (hz.ne 6 9)]; exact h24
              have h32 : g29 (ad 7) = some (.inl (dA 2, 12, .inl (upd (((msN nb ni (t.toInt - now.toInt).toNat now (L, J, ed)).2.1 7)) k on))) := by rw [eg29, va_up_ne _ _ (hz.ne 7 9)]; exact h27
              have h33 : g29 (ad 8) = some (.inl (dA 0, 12, .inl (upd (((msN nb ni (t.toInt - now.toInt).toNat now (L, J, ed)).2.1 8)) k x9))) := by rw [eg29, va_up_ne _ _ (hz.ne 8 9)]; exact h25
              have h34 : g29 (ad 9) = some (.inl (dA 0, 12, .inl (upd (((msN nb ni (t.toInt - now.toInt).toNat now (L, J, ed)).2.1 9)) k x28))) := by rw [eg29]; exact va_up_self _ _ _
              refine go_iconst X (v := 1) d_M_stop_137 (by decide) ?_
              subst ex9 ex28
              have hM : MRep dA ad g29 0 t nb ni (msN nb ni (t.toInt - now.toInt).toNat now (L, J, ed)).2.2 kn (va_up (msN nb ni (t.toInt - now.toInt).toNat now (L, J, ed)).1 6 (vp_updL ((msN nb ni (t.toInt - now.toInt).toNat now (L, J, ed)).1 6) k t)) (va_up (va_up (va_up (msN nb ni (t.toInt - now.toInt).toNat now (L, J, ed)).2.1 8 (upd ((msN nb ni (t.toInt - now.toInt).toNat now (L, J, ed)).2.1 8) k (bfM (msN nb ni (t.toInt - now.toInt).toNat now (L, J, ed)).1 (msN nb ni (t.toInt - now.toInt).toNat now (L, J, ed)).2.1 k t))) 7 (upd ((msN nb ni (t.toInt - now.toInt).toNat now (L, J, ed)).2.1 7) k on)) 9 (upd ((msN nb ni (t.toInt - now.toInt).toNat now (L, J, ed)).2.1 9) k ((msN nb ni (t.toInt - now.toInt).toNat now (L, J, ed)).2.1 9 k + 1))) := by
                unfold bfM
                rw [if_neg c7, if_pos c8, eg29, eg22, eg16, eg10]
                exact (((hz.setJ 8 _).setL 6 _).setZ 7 _).setJ 9 _
              exact go_retI X hr hlk d_M_stop_138 (Or.inr ⟨k, hk, rfl, Or.inr (Or.inr ⟨c4, Or.inl c5, Or.inr ⟨c6, rfl, hM, hF1.trans (hzF.trans (by rw [eg29, eg22, eg16, eg10]; exact (MFr.up rfl).trans ((MFr.up rfl).trans ((MFr.up rfl).trans (MFr.up rfl)))))⟩⟩)⟩)
            · refine go_aload_n X (z := 0) d_M_stop_95 rfl rfl ?_
              refine go_iload_n X (z := 1) d_M_stop_96 rfl rfl ?_
              refine go_lload_n X (z := 3) d_M_stop_97 rfl rfl ?_
              refine go_lconst X (v := 1) d_M_stop_98 (by decide) ?_
              refine go_lsub X d_M_stop_99 ?_
              refine go_callI_V X (As := [.int ((nI k)), .long (t - 1)]) (rest := [.int ((nI k)), .ref (ad 8)]) (c_M_gearAt hz (b := k) (by omega) (t - 1)) gm_ml_M_107 cw_M_gearAt ⟨by decide, by decide⟩ rfl hz.this rfl rfl (Nat.le_of_ble_eq_true rfl) d_M_stop_100 ⟨by decide, by decide⟩ (fun ru35 gu35 hu35 => ?_)
              obtain ⟨rfl, rfl⟩ := hu35
              refine go_goto X (tgt := 112) d_M_stop_103 rfl ?_
              refine go_topi (fun x36 ex36 => ?_)
              refine go_iast X 0 rfl d_M_stop_112 hz.a8 (vp_in_nI (by omega) (by decide)) ?_
              refine go_gen (fun g37 eg37 => ?_)
              have eg37 : g37 = va_up gz (ad 8) (some (.inl (dA 0, 12, .inl (upd (((msN nb ni (t.toInt - now.toInt).toNat now (L, J, ed)).2.1 8)) k x36)))) := by rw [eg37, nI_clamp (show k < 2 ^ 31 by omega)]
              have h38 : g37 (ad 0) = some (.inr (4, [.int 0, .long t, .int ((nI nb)), .ref (ad 3), .ref (ad 4), .ref (ad 5), .ref (ad 6), .ref (ad 7), .ref (ad 8), .ref (ad 9), .ref (ad 10), .int ((nI ni)), .ref (ad 12), .ref (ad 13), .ref (ad 14), .ref (ad 15), .ref (ad 16), .ref (ad 17), .ref (ad 18), .int ((nI (msN nb ni (t.toInt - now.toInt).toNat now (L, J, ed)).2.2)), .int kn, .ref (ad 21), .ref (ad 22), .ref (ad 23), .ref (ad 24)])) := by rw [eg37, va_up_ne _ _ (hz.ne 0 8)]; exact hz.this
              have h39 : g37 (ad 6) = some (.inl (dA 1, 12, .inr (.inl (((msN nb ni (t.toInt - now.toInt).toNat now (L, J, ed)).1 6))))) := by rw [eg37, va_up_ne _ _ (hz.ne 6 8)]; exact hz.a6
              have h40 : g37 (ad 7) = some (.inl (dA 2, 12, .inl (((msN nb ni (t.toInt - now.toInt).toNat now (L, J, ed)).2.1 7)))) := by rw [eg37, va_up_ne _ _ (hz.ne 7 8)]; exact hz.a7
              have h41 : g37 (ad 9) = some (.inl (dA 0, 12, .inl (((msN nb ni (t.toInt - now.toInt).toNat now (L, J, ed)).2.1 9)))) := by rw [eg37, va_up_ne _ _ (hz.ne 9 8)]; exact hz.a9
              have h42 : g37 (ad 8) = some (.inl (dA 0, 12, .inl (upd (((msN nb ni (t.toInt - now.toInt).toNat now (L, J, ed)).2.1 8)) k x36))) := by rw [eg37]; exact va_up_self _ _ _
              refine go_aload_n X (z := 0) d_M_stop_113 rfl rfl ?_
              refine go_get X u_M rfl 6 (by decide) gm_fl_M_20 rfl d_M_stop_114 h38 rfl ?_
              refine go_iload_n X (z := 1) d_M_stop_117 rfl rfl ?_
              refine go_lload_n X (z := 3) d_M_stop_118 rfl rfl ?_
              refine go_last X 1 rfl d_M_stop_119 h39 (vp_in_nI (by omega) (by decide)) ?_
              refine go_gen (fun g43 eg43 => ?_)
              have eg43 : g43 = va_up g37 (ad 6) (some (.inl (dA 1, 12, .inr (.inl (vp_updL (((msN nb ni (t.toInt - now.toInt).toNat now (L, J, ed)).1 6)) k t))))) := by rw [eg43, nI_clamp (show k < 2 ^ 31 by omega)]
              have h44 : g43 (ad 0) = some (.inr (4, [.int 0, .long t, .int ((nI nb)), .ref (ad 3), .ref (ad 4), .ref (ad 5), .ref (ad 6), .ref (ad 7), .ref (ad 8), .ref (ad 9), .ref (ad 10), .int ((nI ni)), .ref (ad 12), .ref (ad 13), .ref (ad 14), .ref (ad 15), .ref (ad 16), .ref (ad 17), .ref (ad 18), .int ((nI (msN nb ni (t.toInt - now.toInt).toNat now (L, J, ed)).2.2)), .int kn, .ref (ad 21), .ref (ad 22), .ref (ad 23), .ref (ad 24)])) := by rw [eg43, va_up_ne _ _ (hz.ne 0 6)]; exact h38
              have h45 : g43 (ad 7) = some (.inl (dA 2, 12, .inl (((msN nb ni (t.toInt - now.toInt).toNat now (L, J, ed)).2.1 7)))) := by rw [eg43, va_up_ne _ _ (hz.ne 7 6)]; exact h40
              have h46 : g43 (ad 8) = some (.inl (dA 0, 12, .inl (upd (((msN nb ni (t.toInt - now.toInt).toNat now (L, J, ed)).2.1 8)) k x36))) := by rw [eg43, va_up_ne _ _ (hz.ne 8 6)]; exact h42
              have h47 : g43 (ad 9) = some (.inl (dA 0, 12, .inl (((msN nb ni (t.toInt - now.toInt).toNat now (L, J, ed)).2.1 9)))) := by rw [eg43, va_up_ne _ _ (hz.ne 9 6)]; exact h41
              have h48 : g43 (ad 6) = some (.inl (dA 1, 12, .inr (.inl (vp_updL (((msN nb ni (t.toInt - now.toInt).toNat now (L, J, ed)).1 6)) k t)))) := by rw [eg43]; exact va_up_self _ _ _
              refine go_aload_n X (z := 0) d_M_stop_120 rfl rfl ?_
              refine go_get X u_M rfl 7 (by decide) gm_fl_M_23 rfl d_M_stop_121 h44 rfl ?_
              refine go_iload_n X (z := 1) d_M_stop_124 rfl rfl ?_
              refine go_iload_n X (z := 2) d_M_stop_125 rfl rfl ?_
              refine go_zast X 2 rfl d_M_stop_126 h45 (vp_in_nI (by omega) (by decide)) ?_
              refine go_gen (fun g49 eg49 => ?_)
              have eg49 : g49 = va_up g43 (ad 7) (some (.inl (dA 2, 12, .inl (upd (((msN nb ni (t.toInt - now.toInt).toNat now (L, J, ed)).2.1 7)) k on)))) := by rw [eg49, nI_clamp (show k < 2 ^ 31 by omega), hon]
              have h50 : g49 (ad 0) = some (.inr (4, [.int 0, .long t, .int ((nI nb)), .ref (ad 3), .ref (ad 4), .ref (ad 5), .ref (ad 6), .ref (ad 7), .ref (ad 8), .ref (ad 9), .ref (ad 10), .int ((nI ni)), .ref (ad 12), .ref (ad 13), .ref (ad 14), .ref (ad 15), .ref (ad 16), .ref (ad 17), .ref (ad 18), .int ((nI (msN nb ni (t.toInt - now.toInt).toNat now (L, J, ed)).2.2)), .int kn, .ref (ad 21), .ref (ad 22), .ref (ad 23), .ref (ad 24)])) := by rw [eg49, va_up_ne _ _ (hz.ne 0 7)]; exact h44
              have h51 : g49 (ad 6) = some (.inl (dA 1, 12, .inr (.inl (vp_updL (((msN nb ni (t.toInt - now.toInt).toNat now (L, J, ed)).1 6)) k t)))) := by rw [eg49, va_up_ne _ _ (hz.ne 6 7)]; exact h48
              have h52 : g49 (ad 8) = some (.inl (dA 0, 12, .inl (upd (((msN nb ni (t.toInt - now.toInt).toNat now (L, J, ed)).2.1 8)) k x36))) := by rw [eg49, va_up_ne _ _ (hz.ne 8 7)]; exact h46
              have h53 : g49 (ad 9) = some (.inl (dA 0, 12, .inl (((msN nb ni (t.toInt - now.toInt).toNat now (L, J, ed)).2.1 9)))) := by rw [eg49, va_up_ne _ _ (hz.ne 9 7)]; exact h47
              have h54 : g49 (ad 7) = some (.inl (dA 2, 12, .inl (upd (((msN nb ni (t.toInt - now.toInt).toNat now (L, J, ed)).2.1 7)) k on))) := by rw [eg49]; exact va_up_self _ _ _
              refine go_aload_n X (z := 0) d_M_stop_127 rfl rfl ?_
              refine go_get X u_M rfl 9 (by decide) gm_fl_M_30 rfl d_M_stop_128 h50 rfl ?_
              refine go_iload_n X (z := 1) d_M_stop_131 rfl rfl ?_
              refine go_dup2 X d_M_stop_132 rfl rfl ?_
              refine go_iald X 0 rfl d_M_stop_133 h53 (vp_in_nI (by omega) (by decide)) ?_
              rw [nI_clamp (show k < 2 ^ 31 by omega)]
              refine go_iconst X (v := 1) d_M_stop_134 (by decide) ?_
              refine go_iadd X d_M_stop_135 ?_
              refine go_topi (fun x55 ex55 => ?_)
              refine go_iast X 0 rfl d_M_stop_136 h53 (vp_in_nI (by omega) (by decide)) ?_
              refine go_gen (fun g56 eg56 => ?_)
              have eg56 : g56 = va_up g49 (ad 9) (some (.inl (dA 0, 12, .inl (upd (((msN nb ni (t.toInt - now.toInt).toNat now (L, J, ed)).2.1 9)) k x55)))) := by rw [eg56, nI_clamp (show k < 2 ^ 31 by omega)]
              have h57 : g56 (ad 0) = some (.inr (4, [.int 0, .long t, .int ((nI nb)), .ref (ad 3), .ref (ad 4), .ref (ad 5), .ref (ad 6), .ref (ad 7), .ref (ad 8), .ref (ad 9), .ref (ad 10), .int ((nI ni)), .ref (ad 12), .ref (ad 13), .ref (ad 14), .ref (ad 15), .ref (ad 16), .ref (ad 17), .ref (ad 18), .int ((nI (msN nb ni (t.toInt - now.toInt).toNat now (L, J, ed)).2.2)), .int kn, .ref (ad 21), .ref (ad 22), .ref (ad 23), .ref (ad 24)])) := by rw [eg56, va_up_ne _ _ (hz.ne 0 9)]; exact h50
              have h58 : g56 (ad 6) = some (.inl (dA 1, 12, .inr (.inl (vp_updL (((msN nb ni (t.toInt - now.toInt).toNat now (L, J, ed)).1 6)) k t)))) := by rw [eg56, va_up_ne _ _ (hz.ne 6 9)]; exact h51
              have h59 : g56 (ad 7) = some (.inl (dA 2, 12, .inl (upd (((msN nb ni (t.toInt - now.toInt).toNat now (L, J, ed)).2.1 7)) k on))) := by rw [eg56, va_up_ne _ _ (hz.ne 7 9)]; exact h54
              have h60 : g56 (ad 8) = some (.inl (dA 0, 12, .inl (upd (((msN nb ni (t.toInt - now.toInt).toNat now (L, J, ed)).2.1 8)) k x36))) := by rw [eg56, va_up_ne _ _ (hz.ne 8 9)]; exact h52
              have h61 : g56 (ad 9) = some (.inl (dA 0, 12, .inl (upd (((msN nb ni (t.toInt - now.toInt).toNat now (L, J, ed)).2.1 9)) k x55))) := by rw [eg56]; exact va_up_self _ _ _
              refine go_iconst X (v := 1) d_M_stop_137 (by decide) ?_
              subst ex36 ex55
              have hM : MRep dA ad g56 0 t nb ni (msN nb ni (t.toInt - now.toInt).toNat now (L, J, ed)).2.2 kn (va_up (msN nb ni (t.toInt - now.toInt).toNat now (L, J, ed)).1 6 (vp_updL ((msN nb ni (t.toInt - now.toInt).toNat now (L, J, ed)).1 6) k t)) (va_up (va_up (va_up (msN nb ni (t.toInt - now.toInt).toNat now (L, J, ed)).2.1 8 (upd ((msN nb ni (t.toInt - now.toInt).toNat now (L, J, ed)).2.1 8) k (bfM (msN nb ni (t.toInt - now.toInt).toNat now (L, J, ed)).1 (msN nb ni (t.toInt - now.toInt).toNat now (L, J, ed)).2.1 k t))) 7 (upd ((msN nb ni (t.toInt - now.toInt).toNat now (L, J, ed)).2.1 7) k on)) 9 (upd ((msN nb ni (t.toInt - now.toInt).toNat now (L, J, ed)).2.1 9) k ((msN nb ni (t.toInt - now.toInt).toNat now (L, J, ed)).2.1 9 k + 1))) := by
                unfold bfM
                rw [if_neg c7, if_neg c8, eg56, eg49, eg43, eg37]
                exact (((hz.setJ 8 _).setL 6 _).setZ 7 _).setJ 9 _
              exact go_retI X hr hlk d_M_stop_138 (Or.inr ⟨k, hk, rfl, Or.inr (Or.inr ⟨c4, Or.inl c5, Or.inr ⟨c6, rfl, hM, hF1.trans (hzF.trans (by rw [eg56, eg49, eg43, eg37]; exact (MFr.up rfl).trans ((MFr.up rfl).trans ((MFr.up rfl).trans (MFr.up rfl)))))⟩⟩)⟩)
          · refine go_bipush X (v := 8) d_M_stop_79 (by decide) ?_
            refine go_goto X (tgt := 112) d_M_stop_81 rfl ?_
            refine go_iast X 0 rfl d_M_stop_112 hz.a8 (vp_in_nI (by omega) (by decide)) ?_
            refine go_gen (fun g62 eg62 => ?_)
            have eg62 : g62 = va_up gz (ad 8) (some (.inl (dA 0, 12, .inl (upd (((msN nb ni (t.toInt - now.toInt).toNat now (L, J, ed)).2.1 8)) k 8)))) := by rw [eg62, nI_clamp (show k < 2 ^ 31 by omega)]
            have h63 : g62 (ad 0) = some (.inr (4, [.int 0, .long t, .int ((nI nb)), .ref (ad 3), .ref (ad 4), .ref (ad 5), .ref (ad 6), .ref (ad 7), .ref (ad 8), .ref (ad 9), .ref (ad 10), .int ((nI ni)), .ref (ad 12), .ref (ad 13), .ref (ad 14), .ref (ad 15), .ref (ad 16), .ref (ad 17), .ref (ad 18), .int ((nI (msN nb ni (t.toInt - now.toInt).toNat now (L, J, ed)).2.2)), .int kn, .ref (ad 21), .ref (ad 22), .ref (ad 23), .ref (ad 24)])) := by rw [eg62, va_up_ne _ _ (hz.ne 0 8)]; exact hz.this
            have h64 : g62 (ad 6) = some (.inl (dA 1, 12, .inr (.inl (((msN nb ni (t.toInt - now.toInt).toNat now (L, J, ed)).1 6))))) := by rw [eg62, va_up_ne _ _ (hz.ne 6 8)]; exact hz.a6
            have h65 : g62 (ad 7) = some (.inl (dA 2, 12, .inl (((msN nb ni (t.toInt - now.toInt).toNat now (L, J, ed)).2.1 7)))) := by rw [eg62, va_up_ne _ _ (hz.ne 7 8)]; exact hz.a7
            have h66 : g62 (ad 9) = some (.inl (dA 0, 12, .inl (((msN nb ni (t.toInt - now.toInt).toNat now (L, J, ed)).2.1 9)))) := by rw [eg62, va_up_ne _ _ (hz.ne 9 8)]; exact hz.a9
            have h67 : g62 (ad 8) = some (.inl (dA 0, 12, .inl (upd (((msN nb ni (t.toInt - now.toInt).toNat now (L, J, ed)).2.1 8)) k 8))) := by rw [eg62]; exact va_up_self _ _ _
            refine go_aload_n X (z := 0) d_M_stop_113 rfl rfl ?_
            refine go_get X u_M rfl 6 (by decide) gm_fl_M_20 rfl d_M_stop_114 h63 rfl ?_
            refine go_iload_n X (z := 1) d_M_stop_117 rfl rfl ?_
            refine go_lload_n X (z := 3) d_M_stop_118 rfl rfl ?_
            refine go_last X 1 rfl d_M_stop_119 h64 (vp_in_nI (by omega) (by decide)) ?_
            refine go_gen (fun g68 eg68 => ?_)
            have eg68 : g68 = va_up g62 (ad 6) (some (.inl (dA 1, 12, .inr (.inl (vp_updL (((msN nb ni (t.toInt - now.toInt).toNat now (L, J, ed)).1 6)) k t))))) := by rw [eg68, nI_clamp (show k < 2 ^ 31 by omega)]
            have h69 : g68 (ad 0) = some (.inr (4, [.int 0, .long t, .int ((nI nb)), .ref (ad 3), .ref (ad 4), .ref (ad 5), .ref (ad 6), .ref (ad 7), .ref (ad 8), .ref (ad 9), .ref (ad 10), .int ((nI ni)), .ref (ad 12), .ref (ad 13), .ref (ad 14), .ref (ad 15), .ref (ad 16), .ref (ad 17), .ref (ad 18), .int ((nI (msN nb ni (t.toInt - now.toInt).toNat now (L, J, ed)).2.2)), .int kn, .ref (ad 21), .ref (ad 22), .ref (ad 23), .ref (ad 24)])) := by rw [eg68, va_up_ne _ _ (hz.ne 0 6)]; exact h63
            have h70 : g68 (ad 7) = some (.inl (dA 2, 12, .inl (((msN nb ni (t.toInt - now.toInt).toNat now (L, J, ed)).2.1 7)))) := by rw [eg68, va_up_ne _ _ (hz.ne 7 6)]; exact h65
            have h71 : g68 (ad 8) = some (.inl (dA 0, 12, .inl (upd (((msN nb ni (t.toInt - now.toInt).toNat now (L, J, ed)).2.1 8)) k 8))) := by rw [eg68, va_up_ne _ _ (hz.ne 8 6)]; exact h67
            have h72 : g68 (ad 9) = some (.inl (dA 0, 12, .inl (((msN nb ni (t.toInt - now.toInt).toNat now (L, J, ed)).2.1 9)))) := by rw [eg68, va_up_ne _ _ (hz.ne 9 6)]; exact h66
            have h73 : g68 (ad 6) = some (.inl (dA 1, 12, .inr (.inl (vp_updL (((msN nb ni (t.toInt - now.toInt).toNat now (L, J, ed)).1 6)) k t)))) := by rw [eg68]; exact va_up_self _ _ _
            refine go_aload_n X (z := 0) d_M_stop_120 rfl rfl ?_
            refine go_get X u_M rfl 7 (by decide) gm_fl_M_23 rfl d_M_stop_121 h69 rfl ?_
            refine go_iload_n X (z := 1) d_M_stop_124 rfl rfl ?_
            refine go_iload_n X (z := 2) d_M_stop_125 rfl rfl ?_
            refine go_zast X 2 rfl d_M_stop_126 h70 (vp_in_nI (by omega) (by decide)) ?_
            refine go_gen (fun g74 eg74 => ?_)
            have eg74 : g74 = va_up g68 (ad 7) (some (.inl (dA 2, 12, .inl (upd (((msN nb ni (t.toInt - now.toInt).toNat now (L, J, ed)).2.1 7)) k on)))) := by rw [eg74, nI_clamp (show k < 2 ^ 31 by omega), hon]
            have h75 : g74 (ad 0) = some (.inr (4, [.int 0, .long t, .int ((nI nb)), .ref (ad 3), .ref (ad 4), .ref (ad 5), .ref (ad 6), .ref (ad 7), .ref (ad 8), .ref (ad 9), .ref (ad 10), .int ((nI ni)), .ref (ad 12), .ref (ad 13), .ref (ad 14), .ref (ad 15), .ref (ad 16), .ref (ad 17), .ref (ad 18), .int ((nI (msN nb ni (t.toInt - now.toInt).toNat now (L, J, ed)).2.2)), .int kn, .ref (ad 21), .ref (ad 22), .ref (ad 23), .ref (ad 24)])) := by rw [eg74, va_up_ne _ _ (hz.ne 0 7)]; exact h69
            have h76 : g74 (ad 6) = some (.inl (dA 1, 12, .inr (.inl (vp_updL (((msN nb ni (t.toInt - now.toInt).toNat now (L, J, ed)).1 6)) k t)))) := by rw [eg74, va_up_ne _ _ (hz.ne 6 7)]; exact h73
            have h77 : g74 (ad 8) = some (.inl (dA 0, 12, .inl (upd (((msN nb ni (t.toInt - now.toInt).toNat now (L, J, ed)).2.1 8)) k 8))) := by rw [eg74, va_up_ne _ _ (hz.ne 8 7)]; exact h71
            have h78 : g74 (ad 9) = some (.inl (dA 0, 12, .inl (((msN nb ni (t.toInt - now.toInt).toNat now (L, J, ed)).2.1 9)))) := by rw [eg74, va_up_ne _ _ (hz.ne 9 7)]; exact h72
            have h79 : g74 (ad 7) = some (.inl (dA 2, 12, .inl (upd (((msN nb ni (t.toInt - now.toInt).toNat now (L, J, ed)).2.1 7)) k on))) := by rw [eg74]; exact va_up_self _ _ _
            refine go_aload_n X (z := 0) d_M_stop_127 rfl rfl ?_
            refine go_get X u_M rfl 9 (by decide) gm_fl_M_30 rfl d_M_stop_128 h75 rfl ?_
            refine go_iload_n X (z := 1) d_M_stop_131 rfl rfl ?_
            refine go_dup2 X d_M_stop_132 rfl rfl ?_
            refine go_iald X 0 rfl d_M_stop_133 h78 (vp_in_nI (by omega) (by decide)) ?_
            rw [nI_clamp (show k < 2 ^ 31 by omega)]
            refine go_iconst X (v := 1) d_M_stop_134 (by decide) ?_
            refine go_iadd X d_M_stop_135 ?_
            refine go_topi (fun x80 ex80 => ?_)
            refine go_iast X 0 rfl d_M_stop_136 h78 (vp_in_nI (by omega) (by decide)) ?_
            refine go_gen (fun g81 eg81 => ?_)
            have eg81 : g81 = va_up g74 (ad 9) (some (.inl (dA 0, 12, .inl (upd (((msN nb ni (t.toInt - now.toInt).toNat now (L, J, ed)).2.1 9)) k x80)))) := by rw [eg81, nI_clamp (show k < 2 ^ 31 by omega)]
            have h82 : g81 (ad 0) = some (.inr (4, [.int 0, .long t, .int ((nI nb)), .ref (ad 3), .ref (ad 4), .ref (ad 5), .ref (ad 6), .ref (ad 7), .ref (ad 8), .ref (ad 9), .ref (ad 10), .int ((nI ni)), .ref (ad 12), .ref (ad 13), .ref (ad 14), .ref (ad 15), .ref (ad 16), .ref (ad 17), .ref (ad 18), .int ((nI (msN nb ni (t.toInt - now.toInt).toNat now (L, J, ed)).2.2)), .int kn, .ref (ad 21), .ref (ad 22), .ref (ad 23), .ref (ad 24)])) := by rw [eg81, va_up_ne _ _ (hz.ne 0 9)]; exact h75
            have h83 : g81 (ad 6) = some (.inl (dA 1, 12, .inr (.inl (vp_updL (((msN nb ni (t.toInt - now.toInt).toNat now (L, J, ed)).1 6)) k t)))) := by rw [eg81, va_up_ne _ _ (hz.ne 6 9)]; exact h76
            have h84 : g81 (ad 7) = some (.inl (dA 2, 12, .inl (upd (((msN nb ni (t.toInt - now.toInt).toNat now (L, J, ed)).2.1 7)) k on))) := by rw [eg81, va_up_ne _ _ (hz.ne 7 9)]; exact h79
            have h85 : g81 (ad 8) = some (.inl (dA 0, 12, .inl (upd (((msN nb ni (t.toInt - now.toInt).toNat now (L, J, ed)).2.1 8)) k 8))) := by rw [eg81, va_up_ne _ _ (hz.ne 8 9)]; exact h77
            have h86 : g81 (ad 9) = some (.inl (dA 0, 12, .inl (upd (((msN nb ni (t.toInt - now.toInt).toNat now (L, J, ed)).2.1 9)) k x80))) := by rw [eg81]; exact va_up_self _ _ _
            refine go_iconst X (v := 1) d_M_stop_137 (by decide) ?_
            subst ex80
            have hM : MRep dA ad g81 0 t nb ni (msN nb ni (t.toInt - now.toInt).toNat now (L, J, ed)).2.2 kn (va_up (msN nb ni (t.toInt - now.toInt).toNat now (L, J, ed)).1 6 (vp_updL ((msN nb ni (t.toInt - now.toInt).toNat now (L, J, ed)).1 6) k t)) (va_up (va_up (va_up (msN nb ni (t.toInt - now.toInt).toNat now (L, J, ed)).2.1 8 (upd ((msN nb ni (t.toInt - now.toInt).toNat now (L, J, ed)).2.1 8) k (bfM (msN nb ni (t.toInt - now.toInt).toNat now (L, J, ed)).1 (msN nb ni (t.toInt - now.toInt).toNat now (L, J, ed)).2.1 k t))) 7 (upd ((msN nb ni (t.toInt - now.toInt).toNat now (L, J, ed)).2.1 7) k on)) 9 (upd ((msN nb ni (t.toInt - now.toInt).toNat now (L, J, ed)).2.1 9) k ((msN nb ni (t.toInt - now.toInt).toNat now (L, J, ed)).2.1 9 k + 1))) := by
              unfold bfM
              rw [if_pos c7, eg81, eg74, eg68, eg62]
              exact (((hz.setJ 8 _).setL 6 _).setZ 7 _).setJ 9 _
            exact go_retI X hr hlk d_M_stop_138 (Or.inr ⟨k, hk, rfl, Or.inr (Or.inr ⟨c4, Or.inl c5, Or.inr ⟨c6, rfl, hM, hF1.trans (hzF.trans (by rw [eg81, eg74, eg68, eg62]; exact (MFr.up rfl).trans ((MFr.up rfl).trans ((MFr.up rfl).trans (MFr.up rfl)))))⟩⟩)⟩)
        · refine go_iconst X (v := 0) d_M_stop_66 (by decide) ?_
          exact go_retI X hr hlk d_M_stop_67 (Or.inr ⟨k, hk, rfl, Or.inr (Or.inr ⟨c4, Or.inl c5, Or.inl ⟨c6, rfl, hz, hF1.trans hzF⟩⟩)⟩)
      · refine go_aload_n X (z := 0) d_M_stop_37 rfl rfl ?_
        refine go_get X u_M rfl 9 (by decide) gm_fl_M_30 rfl d_M_stop_38 h1.this rfl ?_
        refine go_iload_n X (z := 1) d_M_stop_41 rfl rfl ?_
        refine go_iald X 0 rfl d_M_stop_42 h1.a9 (vp_in_nI (by omega) (by decide)) ?_
        rw [nI_clamp (show k < 2 ^ 31 by omega)]
        refine go_bipush X (v := 100) d_M_stop_43 (by decide) ?_
        refine go_icmp_ne X (tgt := 51) d_M_stop_45 rfl (fun c87 => ?_) (fun c87 => ?_)
        · refine go_aload_n X (z := 0) d_M_stop_51 rfl rfl ?_
          refine go_lload_n X (z := 3) d_M_stop_52 rfl rfl ?_
          refine go_callV_V X (As := [.long t]) (rest := []) (c_M_pass h1 hW t (inF_1 c4).1 (hed t (inF_1 c4).1 (inF_1 c4).2)) gm_ml_M_138 cw_M_pass ⟨by decide, by decide⟩ rfl h1.this rfl rfl (Nat.le_of_ble_eq_true rfl) d_M_stop_53 ⟨by decide, by decide⟩ (fun gz hz => ?_)
          obtain ⟨hz, hzF⟩ := hz
          refine go_aload_n X (z := 0) d_M_stop_56 rfl rfl ?_
          refine go_get X u_M rfl 7 (by decide) gm_fl_M_23 rfl d_M_stop_57 hz.this rfl ?_
          refine go_iload_n X (z := 1) d_M_stop_60 rfl rfl ?_
          refine go_zald X 2 rfl d_M_stop_61 hz.a7 (vp_in_nI (by omega) (by decide)) ?_
          rw [nI_clamp (show k < 2 ^ 31 by omega)]
          refine go_iload_n X (z := 2) d_M_stop_62 rfl rfl ?_
          refine go_icmp_ne X (tgt := 68) d_M_stop_63 rfl (fun c88 => ?_) (fun c88 => ?_)
          · refine go_aload_n X (z := 0) d_M_stop_68 rfl rfl ?_
            refine go_get X u_M rfl 8 (by decide) gm_fl_M_27 rfl d_M_stop_69 hz.this rfl ?_
            refine go_iload_n X (z := 1) d_M_stop_72 rfl rfl ?_
            refine go_lload_n X (z := 3) d_M_stop_73 rfl rfl ?_
            refine go_lconst X (v := 0) d_M_stop_74 (by decide) ?_
            refine go_lif_ne X (tgt := 84) d_M_stop_75 d_M_stop_76 rfl (fun c89 => ?_) (fun c89 => ?_)
            · refine go_lload_n X (z := 3) d_M_stop_84 rfl rfl ?_
              refine go_aload_n X (z := 0) d_M_stop_85 rfl rfl ?_
              refine go_get X u_M rfl 6 (by decide) gm_fl_M_20 rfl d_M_stop_86 hz.this rfl ?_
              refine go_iload_n X (z := 1) d_M_stop_89 rfl rfl ?_
              refine go_lald X 1 rfl d_M_stop_90 hz.a6 (vp_in_nI (by omega) (by decide)) ?_
              rw [nI_clamp (show k < 2 ^ 31 by omega)]
              refine go_lif_le X (tgt := 106) d_M_stop_91 d_M_stop_92 rfl (fun c90 => ?_) (fun c90 => ?_)
              · refine go_aload_n X (z := 0) d_M_stop_106 rfl rfl ?_
                refine go_get X u_M rfl 8 (by decide) gm_fl_M_27 rfl d_M_stop_107 hz.this rfl ?_
                refine go_iload_n X (z := 1) d_M_stop_110 rfl rfl ?_
                refine go_iald X 0 rfl d_M_stop_111 hz.a8 (vp_in_nI (by omega) (by decide)) ?_
                rw [nI_clamp (show k < 2 ^ 31 by omega)]
                refine go_topi (fun x91 ex91 => ?_)
                refine go_iast X 0 rfl d_M_stop_112 hz.a8 (vp_in_nI (by omega) (by decide)) ?_
                refine go_gen (fun g92 eg92 => ?_)
                have eg92 : g92 = va_up gz (ad 8) (some (.inl (dA 0, 12, .inl (upd (((msN nb ni (t.toInt - now.toInt).toNat now (L, J, ed)).2.1 8)) k x91)))) := by rw [eg92, nI_clamp (show k < 2 ^ 31 by omega)]
                have h93 : g92 (ad 0) = some (.inr (4, [.int 0, .long t, .int ((nI nb)), .ref (ad 3), .ref (ad 4), .ref (ad 5), .ref (ad 6), .ref (ad 7), .ref (ad 8), .ref (ad 9), .ref (ad 10), .int ((nI ni)), .ref (ad 12), .ref (ad 13), .ref (ad 14), .ref (ad 15), .ref (ad 16), .ref (ad 17), .ref (ad 18), .int ((nI (msN nb ni (t.toInt - now.toInt).toNat now (L, J, ed)).2.2)), .int kn, .ref (ad 21), .ref (ad 22), .ref (ad 23), .ref (ad 24)])) := by rw [eg92, va_up_ne _ _ (hz.ne 0 8)]; exact hz.this
                have h94 : g92 (ad 6) = some (.inl (dA 1, 12, .inr (.inl (((msN nb ni (t.toInt - now.toInt).toNat now (L, J, ed)).1 6))))) := by rw [eg92, va_up_ne _ _ (hz.ne 6 8)]; exact hz.a6
                have h95 : g92 (ad 7) = some (.inl (dA 2, 12, .inl (((msN nb ni (t.toInt - now.toInt).toNat now (L, J, ed)).2.1 7)))) := by rw [eg92, va_up_ne _ _ (hz.ne 7 8)]; exact hz.a7
                have h96 : g92 (ad 9) = some (.inl (dA 0, 12, .inl (((msN nb ni (t.toInt - now.toInt).toNat now (L, J, ed)).2.1 9)))) := by rw [eg92, va_up_ne _ _ (hz.ne 9 8)]; exact hz.a9
                have h97 : g92 (ad 8) = some (.inl (dA 0, 12, .inl (upd (((msN nb ni (t.toInt - now.toInt).toNat now (L, J, ed)).2.1 8)) k x91))) := by rw [eg92]; exact va_up_self _ _ _
                refine go_aload_n X (z := 0) d_M_stop_113 rfl rfl ?_
                refine go_get X u_M rfl 6 (by decide) gm_fl_M_20 rfl d_M_stop_114 h93 rfl ?_
                refine go_iload_n X (z := 1) d_M_stop_117 rfl rfl ?_
                refine go_lload_n X (z := 3) d_M_stop_118 rfl rfl ?_
                refine go_last X 1 rfl d_M_stop_119 h94 (vp_in_nI (by omega) (by decide)) ?_
                refine go_gen (fun g98 eg98 => ?_)
                have eg98 : g98 = va_up g92 (ad 6) (some (.inl (dA 1, 12, .inr (.inl (vp_updL (((msN nb ni (t.toInt - now.toInt).toNat now (L, J, ed)).1 6)) k t))))) := by rw [eg98, nI_clamp (show k < 2 ^ 31 by omega)]
                have h99 : g98 (ad 0) = some (.inr (4, [.int 0, .long t, .int ((nI nb)), .ref (ad 3), .ref (ad 4), .ref (ad 5), .ref (ad 6), .ref (ad 7), .ref (ad 8), .ref (ad 9), .ref (ad 10), .int ((nI ni)), .ref (ad 12), .ref (ad 13), .ref (ad 14), .ref (ad 15), .ref (ad 16), .ref (ad 17), .ref (ad 18), .int ((nI (msN nb ni (t.toInt - now.toInt).toNat now (L, J, ed)).2.2)), .int kn, .ref (ad 21), .ref (ad 22), .ref (ad 23), .ref (ad 24)])) := by rw [eg98, va_up_ne _ _ (hz.ne 0 6)]; exact h93
                have h100 : g98 (ad 7) = some (.inl (dA 2, 12, .inl (((msN nb ni (t.toInt - now.toInt).toNat now (L, J, ed)).2.1 7)))) := by rw [eg98, va_up_ne _ _ (hz.ne 7 6)]; exact h95
                have h101 : g98 (ad 8) = some (.inl (dA 0, 12, .inl (upd (((msN nb ni (t.toInt - now.toInt).toNat now (L, J, ed)).2.1 8)) k x91))) := by rw [eg98, va_up_ne _ _ (hz.ne 8 6)]; exact h97
                have h102 : g98 (ad 9) = some (.inl (dA 0, 12, .inl (((msN nb ni (t.toInt - now.toInt).toNat now (L, J, ed)).2.1 9)))) := by rw [eg98, va_up_ne _ _ (hz.ne 9 6)]; exact h96
                have h103 : g98 (ad 6) = some (.inl (dA 1, 12, .inr (.inl (vp_updL (((msN nb ni (t.toInt - now.toInt).toNat now (L, J, ed)).1 6)) k t)))) := by rw [eg98]; exact va_up_self _ _ _
                refine go_aload_n X (z := 0) d_M_stop_120 rfl rfl ?_
                refine go_get X u_M rfl 7 (by decide) gm_fl_M_23 rfl d_M_stop_121 h99 rfl ?_
                refine go_iload_n X (z := 1) d_M_stop_124 rfl rfl ?_
                refine go_iload_n X (z := 2) d_M_stop_125 rfl rfl ?_
                refine go_zast X 2 rfl d_M_stop_126 h100 (vp_in_nI (by omega) (by decide)) ?_
                refine go_gen (fun g104 eg104 => ?_)
                have eg104 : g104 = va_up g98 (ad 7) (some (.inl (dA 2, 12, .inl (upd (((msN nb ni (t.toInt - now.toInt).toNat now (L, J, ed)).2.1 7)) k on)))) := by rw [eg104, nI_clamp (show k < 2 ^ 31 by omega), hon]
                have h105 : g104 (ad 0) = some (.inr (4, [.int 0, .long t, .int ((nI nb)), .ref (ad 3), .ref (ad 4), .ref (ad 5), .ref (ad 6), .ref (ad 7), .ref (ad 8), .ref (ad 9), .ref (ad 10), .int ((nI ni)), .ref (ad 12), .ref (ad 13), .ref (ad 14), .ref (ad 15), .ref (ad 16), .ref (ad 17), .ref (ad 18), .int ((nI (msN nb ni (t.toInt - now.toInt).toNat now (L, J, ed)).2.2)), .int kn, .ref (ad 21), .ref (ad 22), .ref (ad 23), .ref (ad 24)])) := by rw [eg104, va_up_ne _ _ (hz.ne 0 7)]; exact h99
                have h106 : g104 (ad 6) = some (.inl (dA 1, 12, .inr (.inl (vp_updL (((msN nb ni (t.toInt - now.toInt).toNat now (L, J, ed)).1 6)) k t)))) := by rw [eg104, va_up_ne _ _ (hz.ne 6 7)]; exact h103
                have h107 : g104 (ad 8) = some (.inl (dA 0, 12, .inl (upd (((msN nb ni (t.toInt - now.toInt).toNat now (L, J, ed)).2.1 8)) k x91))) := by rw [eg104, va_up_ne _ _ (hz.ne 8 7)]; exact h101
                have h108 : g104 (ad 9) = some (.inl (dA 0, 12, .inl (((msN nb ni (t.toInt - now.toInt).toNat now (L, J, ed)).2.1 9)))) := by rw [eg104, va_up_ne _ _ (hz.ne 9 7)]; exact h102
                have h109 : g104 (ad 7) = some (.inl (dA 2, 12, .inl (upd (((msN nb ni (t.toInt - now.toInt).toNat now (L, J, ed)).2.1 7)) k on))) := by rw [eg104]; exact va_up_self _ _ _
                refine go_aload_n X (z := 0) d_M_stop_127 rfl rfl ?_
                refine go_get X u_M rfl 9 (by decide) gm_fl_M_30 rfl d_M_stop_128 h105 rfl ?_
                refine go_iload_n X (z := 1) d_M_stop_131 rfl rfl ?_
                refine go_dup2 X d_M_stop_132 rfl rfl ?_
                refine go_iald X 0 rfl d_M_stop_133 h108 (vp_in_nI (by omega) (by decide)) ?_
                rw [nI_clamp (show k < 2 ^ 31 by omega)]
                refine go_iconst X (v := 1) d_M_stop_134 (by decide) ?_
                refine go_iadd X d_M_stop_135 ?_
                refine go_topi (fun x110 ex110 => ?_)
                refine go_iast X 0 rfl d_M_stop_136 h108 (vp_in_nI (by omega) (by decide)) ?_
                refine go_gen (fun g111 eg111 => ?_)
                have eg111 : g111 = va_up g104 (ad 9) (some (.inl (dA 0, 12, .inl (upd (((msN nb ni (t.toInt - now.toInt).toNat now (L, J, ed)).2.1 9)) k x110)))) := by rw [eg111, nI_clamp (show k < 2 ^ 31 by omega)]
                have h112 : g111 (ad 0) = some (.inr (4, [.int 0, .long t, .int ((nI nb)), .ref (ad 3), .ref (ad 4), .ref (ad 5), .ref (ad 6), .ref (ad 7), .ref (ad 8), .ref (ad 9), .ref (ad 10), .int ((nI ni)), .ref (ad 12), .ref (ad 13), .ref (ad 14), .ref (ad 15), .ref (ad 16), .ref (ad 17), .ref (ad 18), .int ((nI (msN nb ni (t.toInt - now.toInt).toNat now (L, J, ed)).2.2)), .int kn, .ref (ad 21), .ref (ad 22), .ref (ad 23), .ref (ad 24)])) := by rw [eg111, va_up_ne _ _ (hz.ne 0 9)]; exact h105
                have h113 : g111 (ad 6) = some (.inl (dA 1, 12, .inr (.inl (vp_updL (((msN nb ni (t.toInt - now.toInt).toNat now (L, J, ed)).1 6)) k t)))) := by rw [eg111, va_up_ne _ _ (hz.ne 6 9)]; exact h106
                have h114 : g111 (ad 7) = some (.inl (dA 2, 12, .inl (upd (((msN nb ni (t.toInt - now.toInt).toNat now (L, J, ed)).2.1 7)) k on))) := by rw [eg111, va_up_ne _ _ (hz.ne 7 9)]; exact h109
                have h115 : g111 (ad 8) = some (.inl (dA 0, 12, .inl (upd (((msN nb ni (t.toInt - now.toInt).toNat now (L, J, ed)).2.1 8)) k x91))) := by rw [eg111, va_up_ne _ _ (hz.ne 8 9)]; exact h107
                have h116 : g111 (ad 9) = some (.inl (dA 0, 12, .inl (upd (((msN nb ni (t.toInt - now.toInt).toNat now (L, J, ed)).2.1 9)) k x110))) := by rw [eg111]; exact va_up_self _ _ _
                refine go_iconst X (v := 1) d_M_stop_137 (by decide) ?_
                subst ex91 ex110
                have hM : MRep dA ad g111 0 t nb ni (msN nb ni (t.toInt - now.toInt).toNat now (L, J, ed)).2.2 kn (va_up (msN nb ni (t.toInt - now.toInt).toNat now (L, J, ed)).1 6 (vp_updL ((msN nb ni (t.toInt - now.toInt).toNat now (L, J, ed)).1 6) k t)) (va_up (va_up (va_up (msN nb ni (t.toInt - now.toInt).toNat now (L, J, ed)).2.1 8 (upd ((msN nb ni (t.toInt - now.toInt).toNat now (L, J, ed)).2.1 8) k (bfM (msN nb ni (t.toInt - now.toInt).toNat now (L, J, ed)).1 (msN nb ni (t.toInt - now.toInt).toNat now (L, J, ed)).2.1 k t))) 7 (upd ((msN nb ni (t.toInt - now.toInt).toNat now (L, J, ed)).2.1 7) k on)) 9 (upd ((msN nb ni (t.toInt - now.toInt).toNat now (L, J, ed)).2.1 9) k ((msN nb ni (t.toInt - now.toInt).toNat now (L, J, ed)).2.1 9 k + 1))) := by
                  unfold bfM
                  rw [if_neg c89, if_pos c90, eg111, eg104, eg98, eg92]
                  exact (((hz.setJ 8 _).setL 6 _).setZ 7 _).setJ 9 _
                exact go_retI X hr hlk d_M_stop_138 (Or.inr ⟨k, hk, rfl, Or.inr (Or.inr ⟨c4, Or.inr c87, Or.inr ⟨c88, rfl, hM, hF1.trans (hzF.trans (by rw [eg111, eg104, eg98, eg92]; exact (MFr.up rfl).trans ((MFr.up rfl).trans ((MFr.up rfl).trans (MFr.up rfl)))))⟩⟩)⟩)
              · refine go_aload_n X (z := 0) d_M_stop_95 rfl rfl ?_
                refine go_iload_n X (z := 1) d_M_stop_96 rfl rfl ?_
                refine go_lload_n X (z := 3) d_M_stop_97 rfl rfl ?_
                refine go_lconst X (v := 1) d_M_stop_98 (by decide) ?_
                refine go_lsub X d_M_stop_99 ?_
                refine go_callI_V X (As := [.int ((nI k)), .long (t - 1)]) (rest := [.int ((nI k)), .ref (ad 8)]) (c_M_gearAt hz (b := k) (by omega) (t - 1)) gm_ml_M_107 cw_M_gearAt ⟨by decide, by decide⟩ rfl hz.this rfl rfl (Nat.le_of_ble_eq_true rfl) d_M_stop_100 ⟨by decide, by decide⟩ (fun ru117 gu117 hu117 => ?_)
                obtain ⟨rfl, rfl⟩ := hu117
                refine go_goto X (tgt := 112) d_M_stop_103 rfl ?_
                refine go_topi (fun x118 ex118 => ?_)
                refine go_iast X 0 rfl d_M_stop_112 hz.a8 (vp_in_nI (by omega) (by decide)) ?_
                refine go_gen (fun g119 eg119 => ?_)
                have eg119 : g119 = va_up gz (ad 8) (some (.inl (dA 0, 12, .inl (upd (((msN nb ni (t.toInt - now.toInt).toNat now (L, J, ed)).2.1 8)) k x118)))) := by rw [eg119, nI_clamp (show k < 2 ^ 31 by omega)]
                have h120 : g119 (ad 0) = some (.inr (4, [.int 0, .long t, .int ((nI nb)), .ref (ad 3), .ref (ad 4), .ref (ad 5), .ref (ad 6), .ref (ad 7), .ref (ad 8), .ref (ad 9), .ref (ad 10), .int ((nI ni)), .ref (ad 12), .ref (ad 13), .ref (ad 14), .ref (ad 15), .ref (ad 16), .ref (ad 17), .ref (ad 18), .int ((nI (msN nb ni (t.toInt - now.toInt).toNat now (L, J, ed)).2.2)), .int kn, .ref (ad 21), .ref (ad 22), .ref (ad 23), .ref (ad 24)])) := by rw [eg119, va_up_ne _ _ (hz.ne 0 8)]; exact hz.this
                have h121 : g119 (ad 6) = some (.inl (dA 1, 12, .inr (.inl (((msN nb ni (t.toInt - now.toInt).toNat now (L, J, ed)).1 6))))) := by rw [eg119, va_up_ne _ _ (hz.ne 6 8)]; exact hz.a6
                have h122 : g119 (ad 7) = some (.inl (dA 2, 12, .inl (((msN nb ni (t.toInt - now.toInt).toNat now (L, J, ed)).2.1 7)))) := by rw [eg119, va_up_ne _ _ (hz.ne 7 8)]; exact hz.a7
                have h123 : g119 (ad 9) = some (.inl (dA 0, 12, .inl (((msN nb ni (t.toInt - now.toInt).toNat now (L, J, ed)).2.1 9)))) := by rw [eg119, va_up_ne _ _ (hz.ne 9 8)]; exact hz.a9
                have h124 : g119 (ad 8) = some (.inl (dA 0, 12, .inl (upd (((msN nb ni (t.toInt - now.toInt).toNat now (L, J, ed)).2.1 8)) k x118))) := by rw [eg119]; exact va_up_self _ _ _
                refine go_aload_n X (z := 0) d_M_stop_113 rfl rfl ?_
                refine go_get X u_M rfl 6 (by decide) gm_fl_M_20 rfl d_M_stop_114 h120 rfl ?_
                refine go_iload_n X (z := 1) d_M_stop_117 rfl rfl ?_
                refine go_lload_n X (z := 3) d_M_stop_118 rfl rfl ?_
                refine go_last X 1 rfl d_M_stop_119 h121 (vp_in_nI (by omega) (by decide)) ?_
                refine go_gen (fun g125 eg125 => ?_)
                have eg125 : g125 = va_up g119 (ad 6) (some (.inl (dA 1, 12, .inr (.inl (vp_updL (((msN nb ni (t.toInt - now.toInt).toNat now (L, J, ed)).1 6)) k t))))) := by rw [eg125, nI_clamp (show k < 2 ^ 31 by omega)]
                have h126 : g125 (ad 0) = some (.inr (4, [.int 0, .long t, .int ((nI nb)), .ref (ad 3), .ref (ad 4), .ref (ad 5), .ref (ad 6), .ref (ad 7), .ref (ad 8), .ref (ad 9), .ref (ad 10), .int ((nI ni)), .ref (ad 12), .ref (ad 13), .ref (ad 14), .ref (ad 15), .ref (ad 16), .ref (ad 17), .ref (ad 18), .int ((nI (msN nb ni (t.toInt - now.toInt).toNat now (L, J, ed)).2.2)), .int kn, .ref (ad 21), .ref (ad 22), .ref (ad 23), .ref (ad 24)])) := by rw [eg125, va_up_ne _ _ (hz.ne 0 6)]; exact h120
                have h127 : g125 (ad 7) = some (.inl (dA 2, 12, .inl (((msN nb ni (t.toInt - now.toInt).toNat now (L, J, ed)).2.1 7)))) := by rw [eg125, va_up_ne _ _ (hz.ne 7 6)]; exact h122
                have h128 : g125 (ad 8) = some (.inl (dA 0, 12, .inl (upd (((msN nb ni (t.toInt - now.toInt).toNat now (L, J, ed)).2.1 8)) k x118))) := by rw [eg125, va_up_ne _ _ (hz.ne 8 6)]; exact h124
                have h129 : g125 (ad 9) = some (.inl (dA 0, 12, .inl (((msN nb ni (t.toInt - now.toInt).toNat now (L, J, ed)).2.1 9)))) := by rw [eg125, va_up_ne _ _ (hz.ne 9 6)]; exact h123
                have h130 : g125 (ad 6) = some (.inl (dA 1, 12, .inr (.inl (vp_updL (((msN nb ni (t.toInt - now.toInt).toNat now (L, J, ed)).1 6)) k t)))) := by rw [eg125]; exact va_up_self _ _ _
                refine go_aload_n X (z := 0) d_M_stop_120 rfl rfl ?_
                refine go_get X u_M rfl 7 (by decide) gm_fl_M_23 rfl d_M_stop_121 h126 rfl ?_
                refine go_iload_n X (z := 1) d_M_stop_124 rfl rfl ?_
                refine go_iload_n X (z := 2) d_M_stop_125 rfl rfl ?_
                refine go_zast X 2 rfl d_M_stop_126 h127 (vp_in_nI (by omega) (by decide)) ?_
                refine go_gen (fun g131 eg131 => ?_)
                have eg131 : g131 = va_up g125 (ad 7) (some (.inl (dA 2, 12, .inl (upd (((msN nb ni (t.toInt - now.toInt).toNat now (L, J, ed)).2.1 7)) k on)))) := by rw [eg131, nI_clamp (show k < 2 ^ 31 by omega), hon]
                have h132 : g131 (ad 0) = some (.inr (4, [.int 0, .long t, .int ((nI nb)), .ref (ad 3), .ref (ad 4), .ref (ad 5), .ref (ad 6), .ref (ad 7), .ref (ad 8), .ref (ad 9), .ref (ad 10), .int ((nI ni)), .ref (ad 12), .ref (ad 13), .ref (ad 14), .ref (ad 15), .ref (ad 16), .ref (ad 17), .ref (ad 18), .int ((nI (msN nb ni (t.toInt - now.toInt).toNat now (L, J, ed)).2.2)), .int kn, .ref (ad 21), .ref (ad 22), .ref (ad 23), .ref (ad 24)])) := by rw [eg131, va_up_ne _ _ (hz.ne 0 7)]; exact h126
                have h133 : g131 (ad 6) = some (.inl (dA 1, 12, .inr (.inl (vp_updL (((msN nb ni (t.toInt - now.toInt).toNat now (L, J, ed)).1 6)) k t)))) := by rw [eg131, va_up_ne _ _ (hz.ne 6 7)]; exact h130
                have h134 : g131 (ad 8) = some (.inl (dA 0, 12, .inl (upd (((msN nb ni (t.toInt - now.toInt).toNat now (L, J, ed)).2.1 8)) k x118))) := by rw [eg131, va_up_ne _ _ (hz.ne 8 7)]; exact h128
                have h135 : g131 (ad 9) = some (.inl (dA 0, 12, .inl (((msN nb ni (t.toInt - now.toInt).toNat now (L, J, ed)).2.1 9)))) := by rw [eg131, va_up_ne _ _ (hz.ne 9 7)]; exact h129
                have h136 : g131 (ad 7) = some (.inl (dA 2, 12, .inl (upd (((msN nb ni (t.toInt - now.toInt).toNat now (L, J, ed)).2.1 7)) k on))) := by rw [eg131]; exact va_up_self _ _ _
                refine go_aload_n X (z := 0) d_M_stop_127 rfl rfl ?_
                refine go_get X u_M rfl 9 (by decide) gm_fl_M_30 rfl d_M_stop_128 h132 rfl ?_
                refine go_iload_n X (z := 1) d_M_stop_131 rfl rfl ?_
                refine go_dup2 X d_M_stop_132 rfl rfl ?_
                refine go_iald X 0 rfl d_M_stop_133 h135 (vp_in_nI (by omega) (by decide)) ?_
                rw [nI_clamp (show k < 2 ^ 31 by omega)]
                refine go_iconst X (v := 1) d_M_stop_134 (by decide) ?_
                refine go_iadd X d_M_stop_135 ?_
                refine go_topi (fun x137 ex137 => ?_)
                refine go_iast X 0 rfl d_M_stop_136 h135 (vp_in_nI (by omega) (by decide)) ?_
                refine go_gen (fun g138 eg138 => ?_)
                have eg138 : g138 = va_up g131 (ad 9) (some (.inl (dA 0, 12, .inl (upd (((msN nb ni (t.toInt - now.toInt).toNat now (L, J, ed)).2.1 9)) k x137)))) := by rw [eg138, nI_clamp (show k < 2 ^ 31 by omega)]
                have h139 : g138 (ad 0) = some (.inr (4, [.int 0, .long t, .int ((nI nb)), .ref (ad 3), .ref (ad 4), .ref (ad 5), .ref (ad 6), .ref (ad 7), .ref (ad 8), .ref (ad 9), .ref (ad 10), .int ((nI ni)), .ref (ad 12), .ref (ad 13), .ref (ad 14), .ref (ad 15), .ref (ad 16), .ref (ad 17), .ref (ad 18), .int ((nI (msN nb ni (t.toInt - now.toInt).toNat now (L, J, ed)).2.2)), .int kn, .ref (ad 21), .ref (ad 22), .ref (ad 23), .ref (ad 24)])) := by rw [eg138, va_up_ne _ _ (hz.ne 0 9)]; exact h132
                have h140 : g138 (ad 6) = some (.inl (dA 1, 12, .inr (.inl (vp_updL (((msN nb ni (t.toInt - now.toInt).toNat now (L, J, ed)).1 6)) k t)))) := by rw [eg138, va_up_ne _ _ (hz.ne 6 9)]; exact h133
                have h141 : g138 (ad 7) = some (.inl (dA 2, 12, .inl (upd (((msN nb ni (t.toInt - now.toInt).toNat now (L, J, ed)).2.1 7)) k on))) := by rw [eg138, va_up_ne _ _ (hz.ne 7 9)]; exact h136
                have h142 : g138 (ad 8) = some (.inl (dA 0, 12, .inl (upd (((msN nb ni (t.toInt - now.toInt).toNat now (L, J, ed)).2.1 8)) k x118))) := by rw [eg138, va_up_ne _ _ (hz.ne 8 9)]; exact h134
                have h143 : g138 (ad 9) = some (.inl (dA 0, 12, .inl (upd (((msN nb ni (t.toInt - now.toInt).toNat now (L, J, ed)).2.1 9)) k x137))) := by rw [eg138]; exact va_up_self _ _ _
                refine go_iconst X (v := 1) d_M_stop_137 (by decide) ?_
                subst ex118 ex137
                have hM : MRep dA ad g138 0 t nb ni (msN nb ni (t.toInt - now.toInt).toNat now (L, J, ed)).2.2 kn (va_up (msN nb ni (t.toInt - now.toInt).toNat now (L, J, ed)).1 6 (vp_updL ((msN nb ni (t.toInt - now.toInt).toNat now (L, J, ed)).1 6) k t)) (va_up (va_up (va_up (msN nb ni (t.toInt - now.toInt).toNat now (L, J, ed)).2.1 8 (upd ((msN nb ni (t.toInt - now.toInt).toNat now (L, J, ed)).2.1 8) k (bfM (msN nb ni (t.toInt - now.toInt).toNat now (L, J, ed)).1 (msN nb ni (t.toInt - now.toInt).toNat now (L, J, ed)).2.1 k t))) 7 (upd ((msN nb ni (t.toInt - now.toInt).toNat now (L, J, ed)).2.1 7) k on)) 9 (upd ((msN nb ni (t.toInt - now.toInt).toNat now (L, J, ed)).2.1 9) k ((msN nb ni (t.toInt - now.toInt).toNat now (L, J, ed)).2.1 9 k + 1))) := by
                  unfold bfM
                  rw [if_neg c89, if_neg c90, eg138, eg131, eg125, eg119]
                  exact (((hz.setJ 8 _).setL 6 _).setZ 7 _).setJ 9 _
                exact go_retI X hr hlk d_M_stop_138 (Or.inr ⟨k, hk, rfl, Or.inr (Or.inr ⟨c4, Or.inr c87, Or.inr ⟨c88, rfl, hM, hF1.trans (hzF.trans (by rw [eg138, eg131, eg125, eg119]; exact (MFr.up rfl).trans ((MFr.up rfl).trans ((MFr.up rfl).trans (MFr.up rfl)))))⟩⟩)⟩)
            · refine go_bipush X (v := 8) d_M_stop_79 (by decide) ?_
              refine go_goto X (tgt := 112) d_M_stop_81 rfl ?_
              refine go_iast X 0 rfl d_M_stop_112 hz.a8 (vp_in_nI (by omega) (by decide)) ?_
              refine go_gen (fun g144 eg144 => ?_)
              have eg144 : g144 = va_up gz (ad 8) (some (.inl (dA 0, 12, .inl (upd (((msN nb ni (t.toInt - now.toInt).toNat now (L, J, ed)).2.1 8)) k 8)))) := by rw [eg144, nI_clamp (show k < 2 ^ 31 by omega)]
              have h145 : g144 (ad 0) = some (.inr (4, [.int 0, .long t, .int ((nI nb)), .ref (ad 3), .ref (ad 4), .ref (ad 5), .ref (ad 6), .ref (ad 7), .ref (ad 8), .ref (ad 9), .ref (ad 10), .int ((nI ni)), .ref (ad 12), .ref (ad 13), .ref (ad 14), .ref (ad 15), .ref (ad 16), .ref (ad 17), .ref (ad 18), .int ((nI (msN nb ni (t.toInt - now.toInt).toNat now (L, J, ed)).2.2)), .int kn, .ref (ad 21), .ref (ad 22), .ref (ad 23), .ref (ad 24)])) := by rw [eg144, va_up_ne _ _ (hz.ne 0 8)]; exact hz.this
              have h146 : g144 (ad 6) = some (.inl (dA 1, 12, .inr (.inl (((msN nb ni (t.toInt - now.toInt).toNat now (L, J, ed)).1 6))))) := by rw [eg144, va_up_ne _ _ (hz.ne 6 8)]; exact hz.a6
              have h147 : g144 (ad 7) = some (.inl (dA 2, 12, .inl (((msN nb ni (t.toInt - now.toInt).toNat now (L, J, ed)).2.1 7)))) := by rw [eg144, va_up_ne _ _ (hz.ne 7 8)]; exact hz.a7
              have h148 : g144 (ad 9) = some (.inl (dA 0, 12, .inl (((msN nb ni (t.toInt - now.toInt).toNat now (L, J, ed)).2.1 9)))) := by rw [eg144, va_up_ne _ _ (hz.ne 9 8)]; exact hz.a9
              have h149 : g144 (ad 8) = some (.inl (dA 0, 12, .inl (upd (((msN nb ni (t.toInt - now.toInt).toNat now (L, J, ed)).2.1 8)) k 8))) := by rw [eg144]; exact va_up_self _ _ _
              refine go_aload_n X (z := 0) d_M_stop_113 rfl rfl ?_
              refine go_get X u_M rfl 6 (by decide) gm_fl_M_20 rfl d_M_stop_114 h145 rfl ?_
              refine go_iload_n X (z := 1) d_M_stop_117 rfl rfl ?_
              refine go_lload_n X (z := 3) d_M_stop_118 rfl rfl ?_
              refine go_last X 1 rfl d_M_stop_119 h146 (vp_in_nI (by omega) (by decide)) ?_
              refine go_gen (fun g150 eg150 => ?_)
              have eg150 : g150 = va_up g144 (ad 6) (some (.inl (dA 1, 12, .inr (.inl (vp_updL (((msN nb ni (t.toInt - now.toInt).toNat now (L, J, ed)).1 6)) k t))))) := by rw [eg150, nI_clamp (show k < 2 ^ 31 by omega)]
              have h151 : g150 (ad 0) = some (.inr (4, [.int 0, .long t, .int ((nI nb)), .ref (ad 3), .ref (ad 4), .ref (ad 5), .ref (ad 6), .ref (ad 7), .ref (ad 8), .ref (ad 9), .ref (ad 10), .int ((nI ni)), .ref (ad 12), .ref (ad 13), .ref (ad 14), .ref (ad 15), .ref (ad 16), .ref (ad 17), .ref (ad 18), .int ((nI (msN nb ni (t.toInt - now.toInt).toNat now (L, J, ed)).2.2)), .int kn, .ref (ad 21), .ref (ad 22), .ref (ad 23), .ref (ad 24)])) := by rw [eg150, va_up_ne _ _ (hz.ne 0 6)]; exact h145
              have h152 : g150 (ad 7) = some (.inl (dA 2, 12, .inl (((msN nb ni (t.toInt - now.toInt).toNat now (L, J, ed)).2.1 7)))) := by rw [eg150, va_up_ne _ _ (hz.ne 7 6)]; exact h147
              have h153 : g150 (ad 8) = some (.inl (dA 0, 12, .inl (upd (((msN nb ni (t.toInt - now.toInt).toNat now (L, J, ed)).2.1 8)) k 8))) := by rw [eg150, va_up_ne _ _ (hz.ne 8 6)]; exact h149
              have h154 : g150 (ad 9) = some (.inl (dA 0, 12, .inl (((msN nb ni (t.toInt - now.toInt).toNat now (L, J, ed)).2.1 9)))) := by rw [eg150, va_up_ne _ _ (hz.ne 9 6)]; exact h148
              have h155 : g150 (ad 6) = some (.inl (dA 1, 12, .inr (.inl (vp_updL (((msN nb ni (t.toInt - now.toInt).toNat now (L, J, ed)).1 6)) k t)))) := by rw [eg150]; exact va_up_self _ _ _
              refine go_aload_n X (z := 0) d_M_stop_120 rfl rfl ?_
              refine go_get X u_M rfl 7 (by decide) gm_fl_M_23 rfl d_M_stop_121 h151 rfl ?_
              refine go_iload_n X (z := 1) d_M_stop_124 rfl rfl ?_
              refine go_iload_n X (z := 2) d_M_stop_125 rfl rfl ?_
              refine go_zast X 2 rfl d_M_stop_126 h152 (vp_in_nI (by omega) (by decide)) ?_
              refine go_gen (fun g156 eg156 => ?_)
              have eg156 : g156 = va_up g150 (ad 7) (some (.inl (dA 2, 12, .inl (upd (((msN nb ni (t.toInt - now.toInt).toNat now (L, J, ed)).2.1 7)) k on)))) := by rw [eg156, nI_clamp (show k < 2 ^ 31 by omega), hon]
              have h157 : g156 (ad 0) = some (.inr (4, [.int 0, .long t, .int ((nI nb)), .ref (ad 3), .ref (ad 4), .ref (ad 5), .ref (ad 6), .ref (ad 7), .ref (ad 8), .ref (ad 9), .ref (ad 10), .int ((nI ni)), .ref (ad 12), .ref (ad 13), .ref (ad 14), .ref (ad 15), .ref (ad 16), .ref (ad 17), .ref (ad 18), .int ((nI (msN nb ni (t.toInt - now.toInt).toNat now (L, J, ed)).2.2)), .int kn, .ref (ad 21), .ref (ad 22), .ref (ad 23), .ref (ad 24)])) := by rw [eg156, va_up_ne _ _ (hz.ne 0 7)]; exact h151
              have h158 : g156 (ad 6) = some (.inl (dA 1, 12, .inr (.inl (vp_updL (((msN nb ni (t.toInt - now.toInt).toNat now (L, J, ed)).1 6)) k t)))) := by rw [eg156, va_up_ne _ _ (hz.ne 6 7)]; exact h155
              have h159 : g156 (ad 8) = some (.inl (dA 0, 12, .inl (upd (((msN nb ni (t.toInt - now.toInt).toNat now (L, J, ed)).2.1 8)) k 8))) := by rw [eg156, va_up_ne _ _ (hz.ne 8 7)]; exact h153
              have h160 : g156 (ad 9) = some (.inl (dA 0, 12, .inl (((msN nb ni (t.toInt - now.toInt).toNat now (L, J, ed)).2.1 9)))) := by rw [eg156, va_up_ne _ _ (hz.ne 9 7)]; exact h154
              have h161 : g156 (ad 7) = some (.inl (dA 2, 12, .inl (upd (((msN nb ni (t.toInt - now.toInt).toNat now (L, J, ed)).2.1 7)) k on))) := by rw [eg156]; exact va_up_self _ _ _
              refine go_aload_n X (z := 0) d_M_stop_127 rfl rfl ?_
              refine go_get X u_M rfl 9 (by decide) gm_fl_M_30 rfl d_M_stop_128 h157 rfl ?_
              refine go_iload_n X (z := 1) d_M_stop_131 rfl rfl ?_
              refine go_dup2 X d_M_stop_132 rfl rfl ?_
              refine go_iald X 0 rfl d_M_stop_133 h160 (vp_in_nI (by omega) (by decide)) ?_
              rw [nI_clamp (show k < 2 ^ 31 by omega)]
              refine go_iconst X (v := 1) d_M_stop_134 (by decide) ?_
              refine go_iadd X d_M_stop_135 ?_
              refine go_topi (fun x162 ex162 => ?_)
              refine go_iast X 0 rfl d_M_stop_136 h160 (vp_in_nI (by omega) (by decide)) ?_
              refine go_gen (fun g163 eg163 => ?_)
              have eg163 : g163 = va_up g156 (ad 9) (some (.inl (dA 0, 12, .inl (upd (((msN nb ni (t.toInt - now.toInt).toNat now (L, J, ed)).2.1 9)) k x162)))) := by rw [eg163, nI_clamp (show k < 2 ^ 31 by omega)]
              have h164 : g163 (ad 0) = some (.inr (4, [.int 0, .long t, .int ((nI nb)), .ref (ad 3), .ref (ad 4), .ref (ad 5), .ref (ad 6), .ref (ad 7), .ref (ad 8), .ref (ad 9), .ref (ad 10), .int ((nI ni)), .ref (ad 12), .ref (ad 13), .ref (ad 14), .ref (ad 15), .ref (ad 16), .ref (ad 17), .ref (ad 18), .int ((nI (msN nb ni (t.toInt - now.toInt).toNat now (L, J, ed)).2.2)), .int kn, .ref (ad 21), .ref (ad 22), .ref (ad 23), .ref (ad 24)])) := by rw [eg163, va_up_ne _ _ (hz.ne 0 9)]; exact h157
              have h165 : g163 (ad 6) = some (.inl (dA 1, 12, .inr (.inl (vp_updL (((msN nb ni (t.toInt - now.toInt).toNat now (L, J, ed)).1 6)) k t)))) := by rw [eg163, va_up_ne _ _ (hz.ne 6 9)]; exact h158
              have h166 : g163 (ad 7) = some (.inl (dA 2, 12, .inl (upd (((msN nb ni (t.toInt - now.toInt).toNat now (L, J, ed)).2.1 7)) k on))) := by rw [eg163, va_up_ne _ _ (hz.ne 7 9)]; exact h161
              have h167 : g163 (ad 8) = some (.inl (dA 0, 12, .inl (upd (((msN nb ni (t.toInt - now.toInt).toNat now (L, J, ed)).2.1 8)) k 8))) := by rw [eg163, va_up_ne _ _ (hz.ne 8 9)]; exact h159
              have h168 : g163 (ad 9) = some (.inl (dA 0, 12, .inl (upd (((msN nb ni (t.toInt - now.toInt).toNat now (L, J, ed)).2.1 9)) k x162))) := by rw [eg163]; exact va_up_self _ _ _
              refine go_iconst X (v := 1) d_M_stop_137 (by decide) ?_
              subst ex162
              have hM : MRep dA ad g163 0 t nb ni (msN nb ni (t.toInt - now.toInt).toNat now (L, J, ed)).2.2 kn (va_up (msN nb ni (t.toInt - now.toInt).toNat now (L, J, ed)).1 6 (vp_updL ((msN nb ni (t.toInt - now.toInt).toNat now (L, J, ed)).1 6) k t)) (va_up (va_up (va_up (msN nb ni (t.toInt - now.toInt).toNat now (L, J, ed)).2.1 8 (upd ((msN nb ni (t.toInt - now.toInt).toNat now (L, J, ed)).2.1 8) k (bfM (msN nb ni (t.toInt - now.toInt).toNat now (L, J, ed)).1 (msN nb ni (t.toInt - now.toInt).toNat now (L, J, ed)).2.1 k t))) 7 (upd ((msN nb ni (t.toInt - now.toInt).toNat now (L, J, ed)).2.1 7) k on)) 9 (upd ((msN nb ni (t.toInt - now.toInt).toNat now (L, J, ed)).2.1 9) k ((msN nb ni (t.toInt - now.toInt).toNat now (L, J, ed)).2.1 9 k + 1))) := by
                unfold bfM
                rw [if_pos c89, eg163, eg156, eg150, eg144]
                exact (((hz.setJ 8 _).setL 6 _).setZ 7 _).setJ 9 _
              exact go_retI X hr hlk d_M_stop_138 (Or.inr ⟨k, hk, rfl, Or.inr (Or.inr ⟨c4, Or.inr c87, Or.inr ⟨c88, rfl, hM, hF1.trans (hzF.trans (by rw [eg163, eg156, eg150, eg144]; exact (MFr.up rfl).trans ((MFr.up rfl).trans ((MFr.up rfl).trans (MFr.up rfl)))))⟩⟩)⟩)
          · refine go_iconst X (v := 0) d_M_stop_66 (by decide) ?_
            exact go_retI X hr hlk d_M_stop_67 (Or.inr ⟨k, hk, rfl, Or.inr (Or.inr ⟨c4, Or.inr c87, Or.inl ⟨c88, rfl, hz, hF1.trans hzF⟩⟩)⟩)
        · refine go_bipush X (v := (-14)) d_M_stop_48 (by decide) ?_
          exact go_retI X hr hlk d_M_stop_50 (Or.inr ⟨k, hk, rfl, Or.inr (Or.inl ⟨⟨h1, hF1⟩, c4, c5, c87, rfl⟩)⟩)
    · refine go_bipush X (v := (-12)) d_M_stop_24 (by decide) ?_
      exact go_retI X hr hlk d_M_stop_26 (Or.inr ⟨k, hk, rfl, Or.inl ⟨⟨h1, hF1⟩, c4, rfl⟩⟩)
  · refine go_bipush X (v := (-11)) d_M_stop_13 (by decide) ?_
    exact go_retI X hr hlk d_M_stop_15 (Or.inl ⟨⟨h1, hF1⟩, isBF_0 c2 (by have := hW.1; omega), rfl⟩)
end M4
