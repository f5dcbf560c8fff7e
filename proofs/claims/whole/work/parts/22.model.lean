abbrev wM (G : jG) (m : Nat) (A : Nat → Nat) (r c k o n pm se th ka iw : Int32) (fo fa sw : Nat → Int32) : va_W := [(m, .inr (3, [.int r, .int c, .int k, .int o, .int n, .ref (A 0), .ref (A 1), .ref (A 2), .ref (A 3), .int pm, .ref (A 4), .ref (A 5), .int se, .int th, .ref (A 6), .ref (A 7), .ref (A 8), .ref (A 9), .ref (A 10), .ref (A 11), .ref (A 12), .ref (A 13), .int ka, .int iw])), (A 0, .inl (G.2.2.1, 4, .inl fo)), (A 1, .inl (G.2.2.1, 16, .inl fa)), (A 2, .inl (G.2.2.1, 16, .inl sw))]
abbrev wX (G : jG) (m : Nat) (A : Nat → Nat) (S : qS) (pm se th ka iw : Int32) : va_W := wM G m A (nI (sR S)) (nI (sC S)) (nI (sK S)) (nI (sO S)) (nI (sN S)) pm se th ka iw (fun f => mI (sE S f)) (fun p => fI (sF S p)) (fun p => mI (sW S p))
theorem i64_le {x y : Int32} : x.toInt64 ≤ y.toInt64 ↔ x ≤ y := by
  rw [Int64.le_iff_toInt_le, Int32.le_iff_toInt_le, Int32.toInt_toInt64, Int32.toInt_toInt64]
theorem bP_c {p q : Prop} [Decidable p] [Decidable q] (h : p ↔ q) : bP p = bP q := by
  by_cases hp : p
  · rw [bP_t hp, bP_t (h.mp hp)]
  · rw [bP_f hp, bP_f (fun z => hp (h.mpr z))]
set_option maxRecDepth 100000 in
set_option maxHeartbeats 400000 in
theorem c_X3_in {G : jG} {d : Nat} {v a b : Int64} : Ct G yX3_in cX3_in 6 (some .boolean) (d + 1) 0 0 [.long v, .long a, .long b] [] (jD (some (.int (bP (a ≤ v ∧ v ≤ b)))) []) := by
  refine ct_of (by decide) (Nat.le_of_ble_eq_true rfl) (own := RX3) (nm := "in") rfl rfl (lv := [some (.long v), none, some (.long a), none, some (.long b), none]) rfl ?_
  refine r_lload_n 0 dX3_in_0 rfl ?_
  refine r_lload_n 1 dX3_in_1 rfl ?_
  refine r_lcmp 2 dX3_in_2 ?_
  refine r_if_lt 3 17 dX3_in_3 (by decide) (fun c_3 => ?_) (fun c_3 => ?_)
  · -- 3T
    refine r_iconst (v := 0) 17 dX3_in_17 (by decide) ?_
    exact r_iret 18 dX3_in_18 rfl rfl (Nat.le_of_ble_eq_true rfl) (Nat.le_of_ble_eq_true rfl) (jd (bP_f (fun z => by first | exact absurd ((lg_cmp_gt v b).mp c_10) (Int64.not_lt.mpr z.2) | exact absurd ((lg_cmp_lt v a).mp c_3) (Int64.not_lt.mpr z.1))).symm)
  · -- 3F
    refine r_lload_n 6 dX3_in_6 rfl ?_
    refine r_lload 7 dX3_in_7 rfl ?_
    refine r_lcmp 9 dX3_in_9 ?_
    refine r_if_gt 10 17 dX3_in_10 (by decide) (fun c_10 => ?_) (fun c_10 => ?_)
    · -- 10T
      refine r_iconst (v := 0) 17 dX3_in_17 (by decide) ?_
      exact r_iret 18 dX3_in_18 rfl rfl (Nat.le_of_ble_eq_true rfl) (Nat.le_of_ble_eq_true rfl) (jd (bP_f (fun z => by first | exact absurd ((lg_cmp_gt v b).mp c_10) (Int64.not_lt.mpr z.2) | exact absurd ((lg_cmp_lt v a).mp c_3) (Int64.not_lt.mpr z.1))).symm)
    · -- 10F
      refine r_iconst (v := 1) 13 dX3_in_13 (by decide) ?_
      refine r_goto 14 18 dX3_in_14 (by decide) ?_
      exact r_iret 18 dX3_in_18 rfl rfl (Nat.le_of_ble_eq_true rfl) (Nat.le_of_ble_eq_true rfl) (jd (bP_t (⟨Int64.not_lt.mp (fun z => c_3 ((lg_cmp_lt v a).mpr z)), Int64.not_lt.mp (fun z => c_10 ((lg_cmp_gt v b).mpr z))⟩)).symm)
theorem m_in {G : jG} {d : Nat} {x a b : Int32} : Ct G yX3_in cX3_in 6 (some .boolean) (d + 1) 0 0 [.long x.toInt64, .long a.toInt64, .long b.toInt64] [] (jD (some (.int (bP (a ≤ x ∧ x ≤ b)))) []) := by
  rw [bP_c (show (a ≤ x ∧ x ≤ b) ↔ (a.toInt64 ≤ x.toInt64 ∧ x.toInt64 ≤ b.toInt64) by rw [i64_le, i64_le])]
  exact c_X3_in
set_option maxRecDepth 100000 in
set_option maxHeartbeats 400000 in
theorem lp_ones {G : jG} {d : Nat} {Z : Nat → Bool} : ∀ (n : Nat) (L : Nat → Bool) (c : Nat), cnt L 16 + 1 ≤ n → c + cnt L 16 = cnt Z 16 → Rn G RX3 "ones" cX3_ones 3 (some .int) (jR (d + 1) 0 0) jX0 (jE G (jD (some (.int (nI (cnt Z 16)))) []) 0 0) 0 0 4 [some (.int (mI Z)), some (.int (nI c)), some (.int (mI L))] [] [] := by
  intro n
  induction n with
  | zero => intros; omega
  | succ n ih =>
    intro L c h1 h2
    refine r_iload_n 4 dX3_ones_4 rfl ?_
    refine r_if_eq 5 20 dX3_ones_5 (by decide) (fun c_5 => ?_) (fun c_5 => ?_)
    · -- 5T
      have h0 : cnt L 16 = 0 := (cnt_0 16).mpr (mI_eq0.mp c_5)
      obtain rfl : c = cnt Z 16 := by omega
      refine r_iload_n 20 dX3_ones_20 rfl ?_
      exact r_iret 21 dX3_ones_21 rfl rfl (Nat.le_of_ble_eq_true rfl) (Nat.le_of_ble_eq_true rfl) (jd rfl)
    · -- 5F
      have hc := cnt_rmB c_5
      refine r_iinc (lv2 := [_, _, _]) 8 dX3_ones_8 rfl (jinc) (by decide) rfl rfl ?_
      refine r_iload_n 11 dX3_ones_11 rfl ?_
      refine r_iload_n 12 dX3_ones_12 rfl ?_
      refine r_iconst (v := 1) 13 dX3_ones_13 (by decide) ?_
      refine r_isub 14 dX3_ones_14 ?_
      refine r_iand 15 dX3_ones_15 ?_
      refine r_ti (y := mI (rmB L)) (mI_rmB c_5) ?_
      refine r_istore_n (lv2 := [_, _, _]) 16 dX3_ones_16 (by decide) rfl rfl ?_
      refine r_goto 17 4 dX3_ones_17 (by decide) ?_
      exact ih (rmB L) (c + 1) (by omega) (by omega)
set_option maxRecDepth 100000 in
set_option maxHeartbeats 400000 in
theorem m_ones {G : jG} {d : Nat} {Z : Nat → Bool} : Ct G yX3_ones cX3_ones 3 (some .int) (d + 1) 0 0 [.int (mI Z)] [] (jD (some (.int (nI (cnt Z 16)))) []) := by
  refine ct_of (by decide) (Nat.le_of_ble_eq_true rfl) (own := RX3) (nm := "ones") rfl rfl (lv := [some (.int (mI Z)), none, none]) rfl ?_
  refine r_iconst (v := 0) 0 dX3_ones_0 (by decide) ?_
  refine r_ti (y := nI 0) (nI_0.symm) ?_
  refine r_istore_n (lv2 := [_, _, none]) 1 dX3_ones_1 (by decide) rfl rfl ?_
  refine r_iload_n 2 dX3_ones_2 rfl ?_
  refine r_istore_n (lv2 := [_, _, _]) 3 dX3_ones_3 (by decide) rfl rfl ?_
  exact lp_ones 17 Z 0 (by have := cnt_le Z 16; omega) (Nat.zero_add _)
set_option maxRecDepth 100000 in
set_option maxHeartbeats 400000 in
theorem m_places {G : jG} {d : Nat} {m : Nat} {A : Nat → Nat} {S : qS} {pm se th ka iw : Int32} : Ct G yX3_places cX3_places 1 (some .int) (d + 1) 0 0 [.ref m] (wX G m A S pm se th ka iw) (jD (some (.int (nI (sP S)))) (wX G m A S pm se th ka iw)) := by
  refine ct_of (by decide) (Nat.le_of_ble_eq_true rfl) (own := RX3) (nm := "places") rfl rfl (lv := [some (.ref m)]) rfl ?_
  refine r_aload_n 0 dX3_places_0 rfl ?_
  refine r_get 1 f_X3_69 dX3_places_1 0 rfl rfl ?_
  refine r_aload_n 4 dX3_places_4 rfl ?_
  refine r_get 5 f_X3_72 dX3_places_5 0 rfl rfl ?_
  refine r_imul 8 dX3_places_8 ?_
  refine r_ti (y := nI (sP S)) (pk_mul _ _) ?_
  exact r_iret 9 dX3_places_9 rfl rfl (Nat.le_of_ble_eq_true rfl) (Nat.le_of_ble_eq_true rfl) (jd rfl)
theorem pl_in {S : qS} (hS : wf S) {x : Int32} : ((0 : Int32) ≤ x ∧ x ≤ nI (sP S - 1)) ↔ plB S x = true := by
  have h16 := hS.p16
  have h1 := hS.p1
  rw [plB_iff]
  constructor
  · rintro ⟨a, b⟩
    refine ⟨Int32.not_lt.mpr a, ?_⟩
    obtain ⟨j, hj, rfl⟩ := nI_of (Int32.not_lt.mpr a)
    have := (nI_leI hj (by omega)).mp b
    exact nI_lt (by omega) (by omega)
  · rintro ⟨a, b⟩
    refine ⟨Int32.not_lt.mp a, ?_⟩
    obtain ⟨j, hj, rfl⟩ := nI_of a
    have := (nI_ltI hj (by omega)).mp b
    exact nI_le (by omega) (by omega)
set_option maxRecDepth 100000 in
set_option maxHeartbeats 400000 in
theorem m_isPlace {G : jG} {d : Nat} {m : Nat} {A : Nat → Nat} {S : qS} {pm se th ka iw : Int32} (hS : wf S) {x : Int32} : Ct G yX3_isPlace cX3_isPlace 2 (some .boolean) (d + 2) 0 0 [.ref m, .int x] (wX G m A S pm se th ka iw) (jD (some (.int (bP (plB S x = true)))) (wX G m A S pm se th ka iw)) := by
  refine ct_of (by decide) (Nat.le_of_ble_eq_true rfl) (own := RX3) (nm := "isPlace") rfl rfl (lv := [some (.ref m), some (.int x)]) rfl ?_
  refine r_iload_n 0 dX3_isPlace_0 rfl ?_
  refine r_i2l 1 dX3_isPlace_1 ?_
  refine r_lconst (v := 0) 2 dX3_isPlace_2 (by decide) ?_
  refine r_aload_n 3 dX3_isPlace_3 rfl ?_
  refine r_callVD (ws2 := [_, _, _, _]) (wr := []) 4 s_X3_75 dX3_isPlace_4 (m_places) rfl rfl 0 rfl rfl rfl [0, 1, 2, 3] [] rfl rfl rfl rfl (by decide) jRm_ok (Nat.le_of_ble_eq_true rfl) ⟨(Nat.le_of_ble_eq_true rfl), (Nat.le_of_ble_eq_true rfl)⟩ [0, 1, 2, 3] rfl rfl ?_
  refine r_iconst (v := 1) 7 dX3_isPlace_7 (by decide) ?_
  refine r_isub 8 dX3_isPlace_8 ?_
  refine r_ti (y := nI (sP S - 1)) (pk_sub (b := 1) hS.p1) ?_
  refine r_i2l 9 dX3_isPlace_9 ?_
  refine r_sta (st2 := [.long (nI (sP S - 1)).toInt64, .long (0 : Int32).toInt64, .long x.toInt64]) rfl ?_
  refine r_callSD (ws2 := [_, _, _, _]) (wr := [_, _, _, _]) 10 s_X3_79 dX3_isPlace_10 (m_in) rfl rfl [] [0, 1, 2, 3] rfl rfl rfl rfl (by decide) jRm_ok (Nat.le_of_ble_eq_true rfl) ⟨(Nat.le_of_ble_eq_true rfl), (Nat.le_of_ble_eq_true rfl)⟩ [0, 1, 2, 3] rfl rfl ?_
  exact r_iret 13 dX3_isPlace_13 rfl bP_n (Nat.le_of_ble_eq_true rfl) (Nat.le_of_ble_eq_true rfl) (jd (bP_c (pl_in hS)))
set_option maxRecDepth 100000 in
set_option maxHeartbeats 400000 in
theorem m_isFamily {G : jG} {d : Nat} {x : Int32} : Ct G yX3_isFamily cX3_isFamily 1 (some .boolean) (d + 2) 0 0 [.int x] [] (jD (some (.int (bP (0 ≤ x ∧ x ≤ 3)))) []) := by
  refine ct_of (by decide) (Nat.le_of_ble_eq_true rfl) (own := RX3) (nm := "isFamily") rfl rfl (lv := [some (.int x)]) rfl ?_
  refine r_iload_n 0 dX3_isFamily_0 rfl ?_
  refine r_i2l 1 dX3_isFamily_1 ?_
  refine r_lconst (v := 0) 2 dX3_isFamily_2 (by decide) ?_
  refine r_ldc2 3 q_X3_83 dX3_isFamily_3 ?_
  refine r_sta (st2 := [.long (3 : Int32).toInt64, .long (0 : Int32).toInt64, .long x.toInt64]) rfl ?_
  refine r_callSD (ws2 := []) (wr := []) 6 s_X3_79 dX3_isFamily_6 (m_in) rfl rfl [] [] rfl rfl rfl rfl (by decide) jRm_ok (Nat.le_of_ble_eq_true rfl) ⟨(Nat.le_of_ble_eq_true rfl), (Nat.le_of_ble_eq_true rfl)⟩ [] rfl rfl ?_
  exact r_iret 9 dX3_isFamily_9 rfl bP_n (Nat.le_of_ble_eq_true rfl) (Nat.le_of_ble_eq_true rfl) (jd rfl)
theorem fI_neg {k : Nat} (h : k ≤ 4) : fI k < 0 ↔ ¬ k < 4 := by
  have h2 : ∀ a, a < 5 → (fI a < 0 ↔ ¬ a < 4) := by decide +kernel
  exact h2 k (by omega)
set_option maxRecDepth 100000 in
set_option maxHeartbeats 400000 in
theorem m_isSquare {G : jG} {d : Nat} {m : Nat} {A : Nat → Nat} {S : qS} {pm se th ka iw : Int32} {p : Nat} (hp : p < 16) (h4 : sF S p ≤ 4) : Ct G yX3_isSquare cX3_isSquare 2 (some .boolean) (d + 1) 0 0 [.ref m, .int (nI p)] (wX G m A S pm se th ka iw) (jD (some (.int (bP (sqB S p = true)))) (wX G m A S pm se th ka iw)) := by
  refine ct_of (by decide) (Nat.le_of_ble_eq_true rfl) (own := RX3) (nm := "isSquare") rfl rfl (lv := [some (.ref m), some (.int (nI p))]) rfl ?_
  refine r_aload_n 0 dX3_isSquare_0 rfl ?_
  refine r_get 1 f_X3_13 dX3_isSquare_1 0 rfl rfl ?_
  refine r_iload_n 4 dX3_isSquare_4 rfl ?_
  refine r_iaload 5 dX3_isSquare_5 2 rfl (vp_in_nI (by omega) (by decide)) (nI_clamp (by omega)) ?_
  refine r_if_lt 6 13 dX3_isSquare_6 (by decide) (fun c_6 => ?_) (fun c_6 => ?_)
  · -- 6T
    refine r_iconst (v := 0) 13 dX3_isSquare_13 (by decide) ?_
    exact r_iret 14 dX3_isSquare_14 rfl rfl (Nat.le_of_ble_eq_true rfl) (Nat.le_of_ble_eq_true rfl) (jd (bP_f (fun z => (fI_neg h4).mp c_6 (sqB_iff.mp z))).symm)
  · -- 6F
    refine r_iconst (v := 1) 9 dX3_isSquare_9 (by decide) ?_
    refine r_goto 10 14 dX3_isSquare_10 (by decide) ?_
    exact r_iret 14 dX3_isSquare_14 rfl rfl (Nat.le_of_ble_eq_true rfl) (Nat.le_of_ble_eq_true rfl) (jd (bP_t (sqB_iff.mpr (Decidable.of_not_not (fun z => c_6 ((fI_neg h4).mpr z))))).symm)
set_option maxRecDepth 100000 in
set_option maxHeartbeats 400000 in
theorem m_areFoes {G : jG} {d : Nat} {m : Nat} {A : Nat → Nat} {S : qS} {pm se th ka iw : Int32} {f g : Nat} (hf : f < 4) (hg : g < 16) : Ct G yX3_areFoes cX3_areFoes 3 (some .boolean) (d + 1) 0 0 [.ref m, .int (nI f), .int (nI g)] (wX G m A S pm se th ka iw) (jD (some (.int (bP (sE S f g = true)))) (wX G m A S pm se th ka iw)) := by
  refine ct_of (by decide) (Nat.le_of_ble_eq_true rfl) (own := RX3) (nm := "areFoes") rfl rfl (lv := [some (.ref m), some (.int (nI f)), some (.int (nI g))]) rfl ?_
  refine r_aload_n 0 dX3_areFoes_0 rfl ?_
  refine r_get 1 f_X3_7 dX3_areFoes_1 0 rfl rfl ?_
  refine r_iload_n 4 dX3_areFoes_4 rfl ?_
  refine r_iaload 5 dX3_areFoes_5 1 rfl (vp_in_nI (by omega) (by decide)) (nI_clamp (by omega)) ?_
  refine r_iload_n 6 dX3_areFoes_6 rfl ?_
  refine r_ishr 7 dX3_areFoes_7 ?_
  refine r_iconst (v := 1) 8 dX3_areFoes_8 (by decide) ?_
  refine r_iand 9 dX3_areFoes_9 ?_
  refine r_iconst (v := 1) 10 dX3_areFoes_10 (by decide) ?_
  refine r_icmp_ne 11 18 dX3_areFoes_11 (by decide) (fun c_11 => ?_) (fun c_11 => ?_)
  · -- 11T
    refine r_iconst (v := 0) 18 dX3_areFoes_18 (by decide) ?_
    exact r_iret 19 dX3_areFoes_19 rfl rfl (Nat.le_of_ble_eq_true rfl) (Nat.le_of_ble_eq_true rfl) (jd (bP_f (fun z => c_11 ((mI_bit1 hg).mpr z))).symm)
  · -- 11F
    refine r_iconst (v := 1) 14 dX3_areFoes_14 (by decide) ?_
    refine r_goto 15 19 dX3_areFoes_15 (by decide) ?_
    exact r_iret 19 dX3_areFoes_19 rfl rfl (Nat.le_of_ble_eq_true rfl) (Nat.le_of_ble_eq_true rfl) (jd (bP_t ((mI_bit1 hg).mp c_11)).symm)
set_option maxRecDepth 100000 in
set_option maxHeartbeats 400000 in
theorem m_threadOf {G : jG} {d : Nat} {m : Nat} {A : Nat → Nat} {S : qS} {pm se th ka iw : Int32} (hS : wf S) {p r : Nat} (hp : p < 16) (hr : r < 16) : Ct G yX3_threadOf cX3_threadOf 3 (some .int) (d + 1) 0 0 [.ref m, .int (nI p), .int (nI r)] (wX G m A S pm se th ka iw) (jD (some (.int (nI (thN S p r)))) (wX G m A S pm se th ka iw)) := by
  refine ct_of (by decide) (Nat.le_of_ble_eq_true rfl) (own := RX3) (nm := "threadOf") rfl rfl (lv := [some (.ref m), some (.int (nI p)), some (.int (nI r))]) rfl ?_
  refine r_aload_n 0 dX3_threadOf_0 rfl ?_
  refine r_get 1 f_X3_13 dX3_threadOf_1 0 rfl rfl ?_
  refine r_iload_n 4 dX3_threadOf_4 rfl ?_
  refine r_iaload 5 dX3_threadOf_5 2 rfl (vp_in_nI (by omega) (by decide)) (nI_clamp (by omega)) ?_
  refine r_aload_n 6 dX3_threadOf_6 rfl ?_
  refine r_get 7 f_X3_13 dX3_threadOf_7 0 rfl rfl ?_
  refine r_iload_n 10 dX3_threadOf_10 rfl ?_
  refine r_iaload 11 dX3_threadOf_11 2 rfl (vp_in_nI (by omega) (by decide)) (nI_clamp (by omega)) ?_
  refine r_icmp_ne 12 22 dX3_threadOf_12 (by decide) (fun c_12 => ?_) (fun c_12 => ?_)
  · -- 12T
    refine r_aload_n 22 dX3_threadOf_22 rfl ?_
    refine r_get 23 f_X3_59 dX3_threadOf_23 0 rfl rfl ?_
    exact r_iret 26 dX3_threadOf_26 rfl rfl (Nat.le_of_ble_eq_true rfl) (Nat.le_of_ble_eq_true rfl) (jd (by unfold thN; rw [fI_inj (hS.f4 _) (hS.f4 _)] at c_12; simp [c_12]))
  · -- 12F
    refine r_aload_n 15 dX3_threadOf_15 rfl ?_
    refine r_get 16 f_X3_55 dX3_threadOf_16 0 rfl rfl ?_
    refine r_goto 19 26 dX3_threadOf_19 (by decide) ?_
    exact r_iret 26 dX3_threadOf_26 rfl rfl (Nat.le_of_ble_eq_true rfl) (Nat.le_of_ble_eq_true rfl) (jd (by unfold thN; rw [fI_inj (hS.f4 _) (hS.f4 _)] at c_12; simp [c_12]))
set_option maxRecDepth 100000 in
set_option maxHeartbeats 400000 in
theorem m_isSewn {G : jG} {d : Nat} {m : Nat} {A : Nat → Nat} {S : qS} {pm se th ka iw : Int32} {p r : Nat} (hp : p < 16) (hr : r < 16) : Ct G yX3_isSewn cX3_isSewn 3 (some .boolean) (d + 1) 0 0 [.ref m, .int (nI p), .int (nI r)] (wX G m A S pm se th ka iw) (jD (some (.int (bP (sW S p r = true)))) (wX G m A S pm se th ka iw)) := by
  refine ct_of (by decide) (Nat.le_of_ble_eq_true rfl) (own := RX3) (nm := "isSewn") rfl rfl (lv := [some (.ref m), some (.int (nI p)), some (.int (nI r))]) rfl ?_
  refine r_aload_n 0 dX3_isSewn_0 rfl ?_
  refine r_get 1 f_X3_16 dX3_isSewn_1 0 rfl rfl ?_
  refine r_iload_n 4 dX3_isSewn_4 rfl ?_
  refine r_iaload 5 dX3_isSewn_5 3 rfl (vp_in_nI (by omega) (by decide)) (nI_clamp (by omega)) ?_
  refine r_iload_n 6 dX3_isSewn_6 rfl ?_
  refine r_ishr 7 dX3_isSewn_7 ?_
  refine r_iconst (v := 1) 8 dX3_isSewn_8 (by decide) ?_
  refine r_iand 9 dX3_isSewn_9 ?_
  refine r_iconst (v := 1) 10 dX3_isSewn_10 (by decide) ?_
  refine r_icmp_ne 11 18 dX3_isSewn_11 (by decide) (fun c_11 => ?_) (fun c_11 => ?_)
  · -- 11T
    refine r_iconst (v := 0) 18 dX3_isSewn_18 (by decide) ?_
    exact r_iret 19 dX3_isSewn_19 rfl rfl (Nat.le_of_ble_eq_true rfl) (Nat.le_of_ble_eq_true rfl) (jd (bP_f (fun z => c_11 ((mI_bit1 hr).mpr z))).symm)
  · -- 11F
    refine r_iconst (v := 1) 14 dX3_isSewn_14 (by decide) ?_
    refine r_goto 15 19 dX3_isSewn_15 (by decide) ?_
    exact r_iret 19 dX3_isSewn_19 rfl rfl (Nat.le_of_ble_eq_true rfl) (Nat.le_of_ble_eq_true rfl) (jd (bP_t ((mI_bit1 hr).mp c_11)).symm)
def nbI (C p q : Nat) : Int32 := (nI (p % C) - nI (q % C)) * (nI (p % C) - nI (q % C)) + (nI (p / C) - nI (q / C)) * (nI (p / C) - nI (q / C))
def nbF (C p q : Nat) : Bool := ((decide (q = p + 1) && decide (p % C + 1 < C)) || (decide (p = q + 1) && decide (q % C + 1 < C))) || (decide (q = p + C) || decide (p = q + C))
theorem nbI_all : (List.range 4).all (fun C => (List.range 16).all (fun p => (List.range 16).all (fun q => decide (nbI (C + 1) p q = 1) == nbF (C + 1) p q))) = true := by decide +kernel
def wg (S : qS) : Prop := (1 ≤ sR S ∧ sR S ≤ 4) ∧ (1 ≤ sC S ∧ sC S ≤ 4)
theorem wf.g {S : qS} (h : wf S) : wg S := ⟨h.r, h.c⟩
theorem wg.p16 {S : qS} (h : wg S) : sP S ≤ 16 := Nat.le_trans (Nat.mul_le_mul h.1.2 h.2.2) (by decide)
theorem nbI_iff {S : qS} (hS : wg S) {p q : Nat} (hp : p < sP S) (hq : q < sP S) : nbI (sC S) p q = 1 ↔ nbB S p q = true := by
  have hc := hS.2
  have h16 := hS.p16
  have h := List.all_eq_true.mp (List.all_eq_true.mp (List.all_eq_true.mp nbI_all (sC S - 1) (List.mem_range.mpr (by omega))) p (List.mem_range.mpr (by omega))) q (List.mem_range.mpr (by omega))
  rw [show sC S - 1 + 1 = sC S by omega] at h
  have h2 := eq_of_beq h
  rw [nbB_iff]
  have e : nb S p q ↔ nbF (sC S) p q = true := by
    unfold nb nbP nbF
    simp only [Bool.or_eq_true, Bool.and_eq_true, decide_eq_true_eq]
    constructor
    · rintro ⟨_, _, c⟩; omega
    · intro c; exact ⟨hp, hq, by omega⟩
  rw [e, ← h2, decide_eq_true_iff]
set_option maxRecDepth 100000 in
set_option maxHeartbeats 400000 in
theorem m_areNeighbours {G : jG} {d : Nat} {m : Nat} {A : Nat → Nat} {S : qS} {pm se th ka iw : Int32} (hS : wg S) {p r : Nat} (hp : p < sP S) (hr : r < sP S) : Ct G yX3_areNeighbours cX3_areNeighbours 5 (some .boolean) (d + 1) 0 0 [.ref m, .int (nI p), .int (nI r)] (wX G m A S pm se th ka iw) (jD (some (.int (bP (nbB S p r = true)))) (wX G m A S pm se th ka iw)) := by
  refine ct_of (by decide) (Nat.le_of_ble_eq_true rfl) (own := RX3) (nm := "areNeighbours") rfl rfl (lv := [some (.ref m), some (.int (nI p)), some (.int (nI r)), none, none]) rfl ?_
  have hc := hS.2
  have h16 := hS.p16
  refine r_iload_n 0 dX3_areNeighbours_0 rfl ?_
  refine r_aload_n 1 dX3_areNeighbours_1 rfl ?_
  refine r_get 2 f_X3_72 dX3_areNeighbours_2 0 rfl rfl ?_
  refine r_irem 5 dX3_areNeighbours_5 (fun z => absurd ((nI_z (by omega)).mp z) (by omega)) ?_
  refine r_ti (y := nI (p % sC S)) (pk_rem (by omega) (by omega) (by omega)) ?_
  refine r_iload_n 6 dX3_areNeighbours_6 rfl ?_
  refine r_aload_n 7 dX3_areNeighbours_7 rfl ?_
  refine r_get 8 f_X3_72 dX3_areNeighbours_8 0 rfl rfl ?_
  refine r_irem 11 dX3_areNeighbours_11 (fun z => absurd ((nI_z (by omega)).mp z) (by omega)) ?_
  refine r_ti (y := nI (r % sC S)) (pk_rem (by omega) (by omega) (by omega)) ?_
  refine r_isub 12 dX3_areNeighbours_12 ?_
  refine r_istore_n (lv2 := [_, _, _, _, none]) 13 dX3_areNeighbours_13 (by decide) rfl rfl ?_
  refine r_iload_n 14 dX3_areNeighbours_14 rfl ?_
  refine r_aload_n 15 dX3_areNeighbours_15 rfl ?_
  refine r_get 16 f_X3_72 dX3_areNeighbours_16 0 rfl rfl ?_
  refine r_idiv 19 dX3_areNeighbours_19 (fun z => absurd ((nI_z (by omega)).mp z) (by omega)) ?_
  refine r_ti (y := nI (p / sC S)) (pk_div (by omega) (by omega) (by omega)) ?_
  refine r_iload_n 20 dX3_areNeighbours_20 rfl ?_
  refine r_aload_n 21 dX3_areNeighbours_21 rfl ?_
  refine r_get 22 f_X3_72 dX3_areNeighbours_22 0 rfl rfl ?_
  refine r_idiv 25 dX3_areNeighbours_25 (fun z => absurd ((nI_z (by omega)).mp z) (by omega)) ?_
  refine r_ti (y := nI (r / sC S)) (pk_div (by omega) (by omega) (by omega)) ?_
  refine r_isub 26 dX3_areNeighbours_26 ?_
  refine r_istore (lv2 := [_, _, _, _, _]) 27 dX3_areNeighbours_27 (by decide) rfl rfl ?_
  refine r_iload_n 29 dX3_areNeighbours_29 rfl ?_
  refine r_iload_n 30 dX3_areNeighbours_30 rfl ?_
  refine r_imul 31 dX3_areNeighbours_31 ?_
  refine r_iload 32 dX3_areNeighbours_32 rfl ?_
  refine r_iload 34 dX3_areNeighbours_34 rfl ?_
  refine r_imul 36 dX3_areNeighbours_36 ?_
  refine r_iadd 37 dX3_areNeighbours_37 ?_
  refine r_ti (y := nbI (sC S) p r) (rfl) ?_
  refine r_iconst (v := 1) 38 dX3_areNeighbours_38 (by decide) ?_
  refine r_icmp_ne 39 46 dX3_areNeighbours_39 (by decide) (fun c_39 => ?_) (fun c_39 => ?_)
  · -- 39T
    refine r_iconst (v := 0) 46 dX3_areNeighbours_46 (by decide) ?_
    exact r_iret 47 dX3_areNeighbours_47 rfl rfl (Nat.le_of_ble_eq_true rfl) (Nat.le_of_ble_eq_true rfl) (jd (bP_f (fun z => c_39 ((nbI_iff hS hp hr).mpr z))).symm)
  · -- 39F
    refine r_iconst (v := 1) 42 dX3_areNeighbours_42 (by decide) ?_
    refine r_goto 43 47 dX3_areNeighbours_43 (by decide) ?_
    exact r_iret 47 dX3_areNeighbours_47 rfl rfl (Nat.le_of_ble_eq_true rfl) (Nat.le_of_ble_eq_true rfl) (jd (bP_t ((nbI_iff hS hp hr).mp c_39)).symm)
def ltB (X : Nat → Bool) (k i : Nat) : Bool := decide (i < k) && X i
theorem ltB_0 (X : Nat → Bool) : (0 : Int32) = mI (ltB X 0) := (mI_eq0.mpr (fun i _ => by unfold ltB; rw [decide_eq_false (by omega)]; rfl)).symm
theorem ltB_t {X : Nat → Bool} {k : Nat} (h : X k = true) : mI (ltB X k) ||| mI (one k) = mI (ltB X (k + 1)) := by
  rw [mI_or]
  refine mI_congr (fun i _ => ?_)
  rw [Bool.eq_iff_iff]
  unfold ltB
  simp only [Bool.or_eq_true, Bool.and_eq_true, decide_eq_true_eq, one_iff]
  constructor
  · rintro (⟨a, b⟩ | rfl)
    · exact ⟨by omega, b⟩
    · exact ⟨by omega, h⟩
  · rintro ⟨a, b⟩
    by_cases hi : i = k
    · exact Or.inr hi
    · exact Or.inl ⟨by omega, b⟩
theorem ltB_f {X : Nat → Bool} {k : Nat} (h : X k = false) : mI (ltB X k) ||| 0 = mI (ltB X (k + 1)) := by
  rw [or_0]
  refine mI_congr (fun i _ => ?_)
  rw [Bool.eq_iff_iff]
  unfold ltB
  simp only [Bool.and_eq_true, decide_eq_true_eq]
  constructor
  · rintro ⟨a, b⟩
    exact ⟨by omega, b⟩
  · rintro ⟨a, b⟩
    by_cases hi : i = k
    · rw [hi, h] at b; cases b
    · exact ⟨by omega, b⟩
theorem ltB_e {X : Nat → Bool} {k : Nat} (h : ∀ i, k ≤ i → X i = false) : mI (ltB X k) = mI X := by
  refine mI_congr (fun i _ => ?_)
  unfold ltB
  by_cases hi : i < k
  · rw [decide_eq_true hi]; rfl
  · rw [h i (by omega), Bool.and_false]
theorem sqB_out {S : qS} (hS : wf S) {i : Nat} (h : sP S ≤ i) : sqB S i = false := by
  unfold sqB
  rw [hS.out h]
  rfl
set_option maxRecDepth 100000 in
set_option maxHeartbeats 400000 in
theorem lp_msq {G : jG} {d : Nat} {m : Nat} {A : Nat → Nat} {S : qS} {pm se th ka iw : Int32} (hS : wf S) : ∀ (n : Nat) (k : Nat), sP S + 1 ≤ k + n → k ≤ sP S → Rn G RX3 "squares" cX3_squares 3 (some .int) (jR (d + 2) 0 0) jX0 (jE G (jD (some (.int (mI (sqB S)))) (wX G m A S pm se th ka iw)) 0 0) 0 0 4 [some (.ref m), some (.int (mI (ltB (sqB S) k))), some (.int (nI k))] [] (wX G m A S pm se th ka iw) := by
  intro n
  induction n with
  | zero => intros; omega
  | succ n ih =>
    intro k h1 h2
    have h16 := hS.p16
    refine r_iload_n 4 dX3_squares_4 rfl ?_
    refine r_aload_n 5 dX3_squares_5 rfl ?_
    refine r_callVD (ws2 := [_, _, _, _]) (wr := []) 6 s_X3_75 dX3_squares_6 (m_places) rfl rfl 0 rfl rfl rfl [0, 1, 2, 3] [] rfl rfl rfl rfl (by decide) jRm_ok (Nat.le_of_ble_eq_true rfl) ⟨(Nat.le_of_ble_eq_true rfl), (Nat.le_of_ble_eq_true rfl)⟩ [0, 1, 2, 3] rfl rfl ?_
    refine r_icmp_geN 9 36 dX3_squares_9 (by decide) (by omega) (by omega) (fun c_9 => ?_) (fun c_9 => ?_)
    · -- 9T
      obtain rfl : k = sP S := by omega
      rw [ltB_e (fun i hi => sqB_out hS hi)]
      refine r_iload_n 36 dX3_squares_36 rfl ?_
      exact r_iret 37 dX3_squares_37 rfl rfl (Nat.le_of_ble_eq_true rfl) (Nat.le_of_ble_eq_true rfl) (jd rfl)
    · -- 9F
      refine r_iload_n 12 dX3_squares_12 rfl ?_
      refine r_aload_n 13 dX3_squares_13 rfl ?_
      refine r_iload_n 14 dX3_squares_14 rfl ?_
      refine r_callVD (ws2 := [_, _, _, _]) (wr := []) 15 s_X3_108 dX3_squares_15 (m_isSquare (show k < 16 by omega) (hS.f4 k)) rfl rfl 0 rfl rfl rfl [0, 1, 2, 3] [] rfl rfl rfl rfl (by decide) jRm_ok (Nat.le_of_ble_eq_true rfl) ⟨(Nat.le_of_ble_eq_true rfl), (Nat.le_of_ble_eq_true rfl)⟩ [0, 1, 2, 3] rfl rfl ?_
      refine r_if_eqB 18 27 dX3_squares_18 (by decide) (fun c_18 => ?_) (fun c_18 => ?_)
      · -- 18T
        refine r_iconst (v := 0) 27 dX3_squares_27 (by decide) ?_
        refine r_ior 28 dX3_squares_28 ?_
        refine r_ti (y := mI (ltB (sqB S) (k + 1))) (by first | exact ltB_t c_18 | exact ltB_f (Bool.not_eq_true _ ▸ c_18)) ?_
        refine r_istore_n (lv2 := [_, _, _]) 29 dX3_squares_29 (by decide) rfl rfl ?_
        refine r_iinc (lv2 := [_, _, _]) 30 dX3_squares_30 rfl (jinc) (by decide) rfl rfl ?_
        refine r_goto 33 4 dX3_squares_33 (by decide) ?_
        exact ih (k + 1) (by omega) (by omega)
      · -- 18F
        refine r_iconst (v := 1) 21 dX3_squares_21 (by decide) ?_
        refine r_iload_n 22 dX3_squares_22 rfl ?_
        refine r_ishl 23 dX3_squares_23 ?_
        refine r_ti (y := mI (one k)) (mI_on (by omega)) ?_
        refine r_goto 24 28 dX3_squares_24 (by decide) ?_
        refine r_ior 28 dX3_squares_28 ?_
        refine r_ti (y := mI (ltB (sqB S) (k + 1))) (by first | exact ltB_t c_18 | exact ltB_f (Bool.not_eq_true _ ▸ c_18)) ?_
        refine r_istore_n (lv2 := [_, _, _]) 29 dX3_squares_29 (by decide) rfl rfl ?_
        refine r_iinc (lv2 := [_, _, _]) 30 dX3_squares_30 rfl (jinc) (by decide) rfl rfl ?_
        refine r_goto 33 4 dX3_squares_33 (by decide) ?_
        exact ih (k + 1) (by omega) (by omega)
set_option maxRecDepth 100000 in
set_option maxHeartbeats 400000 in
theorem m_squares {G : jG} {d : Nat} {m : Nat} {A : Nat → Nat} {S : qS} {pm se th ka iw : Int32} (hS : wf S) : Ct G yX3_squares cX3_squares 3 (some .int) (d + 2) 0 0 [.ref m] (wX G m A S pm se th ka iw) (jD (some (.int (mI (sqB S)))) (wX G m A S pm se th ka iw)) := by
  refine ct_of (by decide) (Nat.le_of_ble_eq_true rfl) (own := RX3) (nm := "squares") rfl rfl (lv := [some (.ref m), none, none]) rfl ?_
  refine r_iconst (v := 0) 0 dX3_squares_0 (by decide) ?_
  refine r_ti (y := mI (ltB (sqB S) 0)) (ltB_0 _) ?_
  refine r_istore_n (lv2 := [_, _, none]) 1 dX3_squares_1 (by decide) rfl rfl ?_
  refine r_iconst (v := 0) 2 dX3_squares_2 (by decide) ?_
  refine r_ti (y := nI 0) (nI_0.symm) ?_
  refine r_istore_n (lv2 := [_, _, _]) 3 dX3_squares_3 (by decide) rfl rfl ?_
  exact lp_msq hS (sP S + 1) 0 (by omega) (by omega)
set_option maxRecDepth 100000 in
set_option maxHeartbeats 400000 in
theorem m_family1 {G : jG} {d : Nat} {m : Nat} {A : Nat → Nat} {S : qS} {pm se th ka iw : Int32} (hS : wf S) {p : Nat} (hp : p < sP S) : Ct G yX3_family cX3_family 2 (some .int) (d + 3) 0 0 [.ref m, .int (nI p)] (wX G m A S pm se th ka iw) (jD (some (.int (fI (sF S p)))) (wX G m A S pm se th ka iw)) := by
  refine ct_of (by decide) (Nat.le_of_ble_eq_true rfl) (own := RX3) (nm := "family") rfl rfl (lv := [some (.ref m), some (.int (nI p))]) rfl ?_
  have h16 := hS.p16
  refine r_aload_n 0 dX3_family_0 rfl ?_
  refine r_iload_n 1 dX3_family_1 rfl ?_
  refine r_callVD (ws2 := [_, _, _, _]) (wr := []) 2 s_X3_112 dX3_family_2 (m_isPlace hS) rfl rfl 0 rfl rfl rfl [0, 1, 2, 3] [] rfl rfl rfl rfl (by decide) jRm_ok (Nat.le_of_ble_eq_true rfl) ⟨(Nat.le_of_ble_eq_true rfl), (Nat.le_of_ble_eq_true rfl)⟩ [0, 1, 2, 3] rfl rfl ?_
  refine r_if_eqB 5 17 dX3_family_5 (by decide) (fun c_5 => ?_) (fun c_5 => ?_)
  · -- 5T
    exact absurd (plB_of hS hp) c_5
  · -- 5F
    refine r_aload_n 8 dX3_family_8 rfl ?_
    refine r_get 9 f_X3_13 dX3_family_9 0 rfl rfl ?_
    refine r_iload_n 12 dX3_family_12 rfl ?_
    refine r_iaload 13 dX3_family_13 2 rfl (vp_in_nI (by omega) (by decide)) (nI_clamp (by omega)) ?_
    refine r_goto 14 18 dX3_family_14 (by decide) ?_
    exact r_iret 18 dX3_family_18 rfl rfl (Nat.le_of_ble_eq_true rfl) (Nat.le_of_ble_eq_true rfl) (jd rfl)
set_option maxRecDepth 100000 in
set_option maxHeartbeats 400000 in
theorem m_family0 {G : jG} {d : Nat} {m : Nat} {A : Nat → Nat} {S : qS} {pm se th ka iw : Int32} (hS : wf S) {x : Int32} (hx : ¬ plB S x = true) : Ct G yX3_family cX3_family 2 (some .int) (d + 3) 0 0 [.ref m, .int x] (wX G m A S pm se th ka iw) (jD (some (.int (-1))) (wX G m A S pm se th ka iw)) := by
  refine ct_of (by decide) (Nat.le_of_ble_eq_true rfl) (own := RX3) (nm := "family") rfl rfl (lv := [some (.ref m), some (.int x)]) rfl ?_
  refine r_aload_n 0 dX3_family_0 rfl ?_
  refine r_iload_n 1 dX3_family_1 rfl ?_
  refine r_callVD (ws2 := [_, _, _, _]) (wr := []) 2 s_X3_112 dX3_family_2 (m_isPlace hS) rfl rfl 0 rfl rfl rfl [0, 1, 2, 3] [] rfl rfl rfl rfl (by decide) jRm_ok (Nat.le_of_ble_eq_true rfl) ⟨(Nat.le_of_ble_eq_true rfl), (Nat.le_of_ble_eq_true rfl)⟩ [0, 1, 2, 3] rfl rfl ?_
  refine r_if_eqB 5 17 dX3_family_5 (by decide) (fun c_5 => ?_) (fun c_5 => ?_)
  · -- 5T
    refine r_iconst (v := -1) 17 dX3_family_17 (by decide) ?_
    exact r_iret 18 dX3_family_18 rfl rfl (Nat.le_of_ble_eq_true rfl) (Nat.le_of_ble_eq_true rfl) (jd rfl)
  · -- 5F
    exact absurd c_5 hx
