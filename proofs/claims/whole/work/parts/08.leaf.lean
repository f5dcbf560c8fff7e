/-- the number of a truth -/
def bP (p : Prop) [Decidable p] : Int32 := if p then 1 else 0
theorem bP_t {p : Prop} [Decidable p] (h : p) : bP p = 1 := if_pos h
theorem bP_f {p : Prop} [Decidable p] (h : ¬ p) : bP p = 0 := if_neg h
theorem bP_0 {p : Prop} [Decidable p] : bP p = 0 ↔ ¬ p := by
  unfold bP; split <;> simp_all
theorem bP_n {p : Prop} [Decidable p] : narrow .boolean (.int (bP p)) = .int (bP p) := by
  unfold bP; split <;> rfl
theorem jd {v x : Int32} {w : va_W} (h : v = x) : jD (some (.int x)) w (some (.int v)) w := ⟨by rw [h], rfl⟩
theorem jdl {v x : Int64} {w : va_W} (h : v = x) : jD (some (.long x)) w (some (.long v)) w := ⟨by rw [h], rfl⟩
theorem jdw {v x : Int32} {w w2 : va_W} (h : v = x) (hw : w2 = w) : jD (some (.int x)) w (some (.int v)) w2 := ⟨by rw [h], hw⟩
theorem jdv {w w2 : va_W} (hw : w2 = w) : jD none w none w2 := ⟨rfl, hw⟩
abbrev wQ (G : jG) (q ql qh : Nat) (r c k o n hr hb rt dn : Int32) (L Ha : Nat → Int32) : va_W := [(q, .inr (1, [.int r, .int c, .int k, .int o, .int n, .int hr, .int hb, .int rt, .int dn, .ref ql, .ref qh])), (ql, .inl (G.2.2.1, 4, .inl L)), (qh, .inl (G.2.2.1, 4, .inl Ha))]
set_option maxRecDepth 100000 in
set_option maxHeartbeats 400000 in
theorem c_X2_isWithin {G : jG} {d : Nat} {v a b : Int32} : Ct G yX2_isWithin cX2_isWithin 3 (some .boolean) (d + 1) 0 0 [.int v, .int a, .int b] [] (jD (some (.int (bP (a ≤ v ∧ v ≤ b)))) []) := by
  refine ct_of (by decide) (Nat.le_of_ble_eq_true rfl) (own := RX2) (nm := "isWithin") rfl rfl (lv := [some (.int v), some (.int a), some (.int b)]) rfl ?_
  refine r_iload_n 0 dX2_isWithin_0 rfl ?_
  refine r_iload_n 1 dX2_isWithin_1 rfl ?_
  refine r_icmp_lt 2 14 dX2_isWithin_2 (by decide) (fun c_2 => ?_) (fun c_2 => ?_)
  · -- 2T
    refine r_iconst (v := 0) 14 dX2_isWithin_14 (by decide) ?_
    exact r_iret 15 dX2_isWithin_15 rfl rfl (Nat.le_of_ble_eq_true rfl) (Nat.le_of_ble_eq_true rfl) (jd (by unfold bP; split <;> first | rfl | (exfalso; simp only [Int32.lt_iff_toInt_lt, Int32.le_iff_toInt_le] at *; omega)))
  · -- 2F
    refine r_iload_n 5 dX2_isWithin_5 rfl ?_
    refine r_iload_n 6 dX2_isWithin_6 rfl ?_
    refine r_icmp_gt 7 14 dX2_isWithin_7 (by decide) (fun c_7 => ?_) (fun c_7 => ?_)
    · -- 7T
      refine r_iconst (v := 0) 14 dX2_isWithin_14 (by decide) ?_
      exact r_iret 15 dX2_isWithin_15 rfl rfl (Nat.le_of_ble_eq_true rfl) (Nat.le_of_ble_eq_true rfl) (jd (by unfold bP; split <;> first | rfl | (exfalso; simp only [Int32.lt_iff_toInt_lt, Int32.le_iff_toInt_le] at *; omega)))
    · -- 7F
      refine r_iconst (v := 1) 10 dX2_isWithin_10 (by decide) ?_
      refine r_goto 11 15 dX2_isWithin_11 (by decide) ?_
      exact r_iret 15 dX2_isWithin_15 rfl rfl (Nat.le_of_ble_eq_true rfl) (Nat.le_of_ble_eq_true rfl) (jd (by unfold bP; split <;> first | rfl | (exfalso; simp only [Int32.lt_iff_toInt_lt, Int32.le_iff_toInt_le] at *; omega)))
set_option maxRecDepth 100000 in
set_option maxHeartbeats 400000 in
theorem c_X2_isFamily {G : jG} {d : Nat} {v : Int32} : Ct G yX2_isFamily cX2_isFamily 1 (some .boolean) (d + 2) 0 0 [.int v] [] (jD (some (.int (bP (0 ≤ v ∧ v ≤ 3)))) []) := by
  refine ct_of (by decide) (Nat.le_of_ble_eq_true rfl) (own := RX2) (nm := "isFamily") rfl rfl (lv := [some (.int v)]) rfl ?_
  refine r_iload_n 0 dX2_isFamily_0 rfl ?_
  refine r_iconst (v := 0) 1 dX2_isFamily_1 (by decide) ?_
  refine r_iconst (v := 3) 2 dX2_isFamily_2 (by decide) ?_
  refine r_callSD (ws2 := []) (wr := []) 3 s_X2_46 dX2_isFamily_3 (c_X2_isWithin) rfl rfl [] [] rfl rfl rfl rfl (by decide) jRm_ok (Nat.le_of_ble_eq_true rfl) ⟨(Nat.le_of_ble_eq_true rfl), (Nat.le_of_ble_eq_true rfl)⟩ [] rfl rfl ?_
  exact r_iret 6 dX2_isFamily_6 rfl bP_n (Nat.le_of_ble_eq_true rfl) (Nat.le_of_ble_eq_true rfl) (jd rfl)
set_option maxRecDepth 100000 in
set_option maxHeartbeats 400000 in
theorem c_X2_isCrowd {G : jG} {d : Nat} {v : Int32} : Ct G yX2_isCrowd cX2_isCrowd 1 (some .boolean) (d + 2) 0 0 [.int v] [] (jD (some (.int (bP (0 ≤ v ∧ v ≤ 8)))) []) := by
  refine ct_of (by decide) (Nat.le_of_ble_eq_true rfl) (own := RX2) (nm := "isCrowd") rfl rfl (lv := [some (.int v)]) rfl ?_
  refine r_iload_n 0 dX2_isCrowd_0 rfl ?_
  refine r_iconst (v := 0) 1 dX2_isCrowd_1 (by decide) ?_
  refine r_bipush (v := 8) 2 dX2_isCrowd_2 (by decide) ?_
  refine r_callSD (ws2 := []) (wr := []) 4 s_X2_46 dX2_isCrowd_4 (c_X2_isWithin) rfl rfl [] [] rfl rfl rfl rfl (by decide) jRm_ok (Nat.le_of_ble_eq_true rfl) ⟨(Nat.le_of_ble_eq_true rfl), (Nat.le_of_ble_eq_true rfl)⟩ [] rfl rfl ?_
  exact r_iret 7 dX2_isCrowd_7 rfl bP_n (Nat.le_of_ble_eq_true rfl) (Nat.le_of_ble_eq_true rfl) (jd rfl)
set_option maxRecDepth 100000 in
set_option maxHeartbeats 400000 in
theorem c_X2_has {G : jG} {d : Nat} {x y : Int32} : Ct G yX2_has cX2_has 2 (some .boolean) (d + 1) 0 0 [.int x, .int y] [] (jD (some (.int (bP (¬ (x >>> (y &&& 31)) &&& 1 = 0)))) []) := by
  refine ct_of (by decide) (Nat.le_of_ble_eq_true rfl) (own := RX2) (nm := "has") rfl rfl (lv := [some (.int x), some (.int y)]) rfl ?_
  refine r_iload_n 0 dX2_has_0 rfl ?_
  refine r_iload_n 1 dX2_has_1 rfl ?_
  refine r_ishr 2 dX2_has_2 ?_
  refine r_iconst (v := 1) 3 dX2_has_3 (by decide) ?_
  refine r_iand 4 dX2_has_4 ?_
  refine r_if_eq 5 12 dX2_has_5 (by decide) (fun c_5 => ?_) (fun c_5 => ?_)
  · -- 5T
    refine r_iconst (v := 0) 12 dX2_has_12 (by decide) ?_
    exact r_iret 13 dX2_has_13 rfl rfl (Nat.le_of_ble_eq_true rfl) (Nat.le_of_ble_eq_true rfl) (jd (by simp only [bP]; first | exact (if_pos (by assumption)).symm | exact (if_neg (fun z => absurd (by assumption) z)).symm))
  · -- 5F
    refine r_iconst (v := 1) 8 dX2_has_8 (by decide) ?_
    refine r_goto 9 13 dX2_has_9 (by decide) ?_
    exact r_iret 13 dX2_has_13 rfl rfl (Nat.le_of_ble_eq_true rfl) (Nat.le_of_ble_eq_true rfl) (jd (by simp only [bP]; first | exact (if_pos (by assumption)).symm | exact (if_neg (fun z => absurd (by assumption) z)).symm))
set_option maxRecDepth 100000 in
set_option maxHeartbeats 400000 in
theorem c_X1_places {G : jG} {d : Nat} {q ql qh : Nat} {r c k o n hr hb rt dn : Int32} {L Ha : Nat → Int32} : Ct G yX1_places cX1_places 1 (some .int) (d + 1) 0 0 [.ref q] (wQ G q ql qh r c k o n hr hb rt dn L Ha) (jD (some (.int (r * c))) (wQ G q ql qh r c k o n hr hb rt dn L Ha)) := by
  refine ct_of (by decide) (Nat.le_of_ble_eq_true rfl) (own := RX1) (nm := "places") rfl rfl (lv := [some (.ref q)]) rfl ?_
  refine r_aload_n 0 dX1_places_0 rfl ?_
  refine r_get 1 f_X1_9 dX1_places_1 0 rfl rfl ?_
  refine r_aload_n 4 dX1_places_4 rfl ?_
  refine r_get 5 f_X1_15 dX1_places_5 0 rfl rfl ?_
  refine r_imul 8 dX1_places_8 ?_
  exact r_iret 9 dX1_places_9 rfl rfl (Nat.le_of_ble_eq_true rfl) (Nat.le_of_ble_eq_true rfl) (jd rfl)
set_option maxRecDepth 100000 in
set_option maxHeartbeats 400000 in
theorem c_X1_loosenAll {G : jG} {d : Nat} {q ql qh : Nat} {r c k o n hr hb rt dn : Int32} {L Ha : Nat → Int32} : Ct G yX1_loosenAll cX1_loosenAll 1 none (d + 1) 0 0 [.ref q] (wQ G q ql qh r c k o n hr hb rt dn L Ha) (jD none (wQ G q ql qh r c k o n hr hb 0 0 L Ha)) := by
  refine ct_of (by decide) (Nat.le_of_ble_eq_true rfl) (own := RX1) (nm := "loosenAll") rfl rfl (lv := [some (.ref q)]) rfl ?_
  refine r_aload_n 0 dX1_loosenAll_0 rfl ?_
  refine r_iconst (v := 0) 1 dX1_loosenAll_1 (by decide) ?_
  refine r_put (ws2 := [(_, .inr (_, [_, _, _, _, _, _, _, _, _, _, _])), _, _]) 2 p_X1_33 dX1_loosenAll_2 0 rfl rfl rfl (Nat.le_of_ble_eq_true rfl) rfl ?_
  refine r_aload_n 5 dX1_loosenAll_5 rfl ?_
  refine r_iconst (v := 0) 6 dX1_loosenAll_6 (by decide) ?_
  refine r_put (ws2 := [(_, .inr (_, [_, _, _, _, _, _, _, _, _, _, _])), _, _]) 7 p_X1_36 dX1_loosenAll_7 0 rfl rfl rfl (Nat.le_of_ble_eq_true rfl) rfl ?_
  exact r_ret 10 dX1_loosenAll_10 rfl (Nat.le_of_ble_eq_true rfl) (Nat.le_of_ble_eq_true rfl) (jdv rfl)
set_option maxRecDepth 100000 in
set_option maxHeartbeats 400000 in
theorem c_X1_beside {G : jG} {d : Nat} {q ql qh : Nat} {r c k o n hr hb rt dn : Int32} {L Ha : Nat → Int32} {x y : Int32} : Ct G yX1_beside cX1_beside 3 (some .int) (d + 1) 0 0 [.ref q, .int x, .int y] (wQ G q ql qh r c k o n hr hb rt dn L Ha) (jD (some (.int (hr &&& ((x &&& (y >>> (1 &&& 31))) ||| ((x >>> (1 &&& 31)) &&& y))))) (wQ G q ql qh r c k o n hr hb rt dn L Ha)) := by
  refine ct_of (by decide) (Nat.le_of_ble_eq_true rfl) (own := RX1) (nm := "beside") rfl rfl (lv := [some (.ref q), some (.int x), some (.int y)]) rfl ?_
  refine r_aload_n 0 dX1_beside_0 rfl ?_
  refine r_get 1 f_X1_27 dX1_beside_1 0 rfl rfl ?_
  refine r_iload_n 4 dX1_beside_4 rfl ?_
  refine r_iload_n 5 dX1_beside_5 rfl ?_
  refine r_iconst (v := 1) 6 dX1_beside_6 (by decide) ?_
  refine r_ishr 7 dX1_beside_7 ?_
  refine r_iand 8 dX1_beside_8 ?_
  refine r_iload_n 9 dX1_beside_9 rfl ?_
  refine r_iconst (v := 1) 10 dX1_beside_10 (by decide) ?_
  refine r_ishr 11 dX1_beside_11 ?_
  refine r_iload_n 12 dX1_beside_12 rfl ?_
  refine r_iand 13 dX1_beside_13 ?_
  refine r_ior 14 dX1_beside_14 ?_
  refine r_iand 15 dX1_beside_15 ?_
  exact r_iret 16 dX1_beside_16 rfl rfl (Nat.le_of_ble_eq_true rfl) (Nat.le_of_ble_eq_true rfl) (jd rfl)
set_option maxRecDepth 100000 in
set_option maxHeartbeats 400000 in
theorem c_X1_below {G : jG} {d : Nat} {q ql qh : Nat} {r c k o n hr hb rt dn : Int32} {L Ha : Nat → Int32} {x y : Int32} : Ct G yX1_below cX1_below 3 (some .int) (d + 1) 0 0 [.ref q, .int x, .int y] (wQ G q ql qh r c k o n hr hb rt dn L Ha) (jD (some (.int (hb &&& ((x &&& (y >>> (c &&& 31))) ||| ((x >>> (c &&& 31)) &&& y))))) (wQ G q ql qh r c k o n hr hb rt dn L Ha)) := by
  refine ct_of (by decide) (Nat.le_of_ble_eq_true rfl) (own := RX1) (nm := "below") rfl rfl (lv := [some (.ref q), some (.int x), some (.int y)]) rfl ?_
  refine r_aload_n 0 dX1_below_0 rfl ?_
  refine r_get 1 f_X1_30 dX1_below_1 0 rfl rfl ?_
  refine r_iload_n 4 dX1_below_4 rfl ?_
  refine r_iload_n 5 dX1_below_5 rfl ?_
  refine r_aload_n 6 dX1_below_6 rfl ?_
  refine r_get 7 f_X1_15 dX1_below_7 0 rfl rfl ?_
  refine r_ishr 10 dX1_below_10 ?_
  refine r_iand 11 dX1_below_11 ?_
  refine r_iload_n 12 dX1_below_12 rfl ?_
  refine r_aload_n 13 dX1_below_13 rfl ?_
  refine r_get 14 f_X1_15 dX1_below_14 0 rfl rfl ?_
  refine r_ishr 17 dX1_below_17 ?_
  refine r_iload_n 18 dX1_below_18 rfl ?_
  refine r_iand 19 dX1_below_19 ?_
  refine r_ior 20 dX1_below_20 ?_
  refine r_iand 21 dX1_below_21 ?_
  exact r_iret 22 dX1_below_22 rfl rfl (Nat.le_of_ble_eq_true rfl) (Nat.le_of_ble_eq_true rfl) (jd rfl)
def joI (c rt dn x : Int32) : Int32 := (((x &&& rt) <<< (1 &&& 31)) ||| ((x >>> (1 &&& 31)) &&& rt)) ||| (((x &&& dn) <<< (c &&& 31)) ||| ((x >>> (c &&& 31)) &&& dn))
set_option maxRecDepth 100000 in
set_option maxHeartbeats 400000 in
theorem c_X1_joinedTo {G : jG} {d : Nat} {q ql qh : Nat} {r c k o n hr hb rt dn : Int32} {L Ha : Nat → Int32} {x : Int32} : Ct G yX1_joinedTo cX1_joinedTo 4 (some .int) (d + 1) 0 0 [.ref q, .int x] (wQ G q ql qh r c k o n hr hb rt dn L Ha) (jD (some (.int (joI c rt dn x))) (wQ G q ql qh r c k o n hr hb rt dn L Ha)) := by
  refine ct_of (by decide) (Nat.le_of_ble_eq_true rfl) (own := RX1) (nm := "joinedTo") rfl rfl (lv := [some (.ref q), some (.int x), none, none]) rfl ?_
  refine r_iload_n 0 dX1_joinedTo_0 rfl ?_
  refine r_aload_n 1 dX1_joinedTo_1 rfl ?_
  refine r_get 2 f_X1_33 dX1_joinedTo_2 0 rfl rfl ?_
  refine r_iand 5 dX1_joinedTo_5 ?_
  refine r_iconst (v := 1) 6 dX1_joinedTo_6 (by decide) ?_
  refine r_ishl 7 dX1_joinedTo_7 ?_
  refine r_iload_n 8 dX1_joinedTo_8 rfl ?_
  refine r_iconst (v := 1) 9 dX1_joinedTo_9 (by decide) ?_
  refine r_ishr 10 dX1_joinedTo_10 ?_
  refine r_aload_n 11 dX1_joinedTo_11 rfl ?_
  refine r_get 12 f_X1_33 dX1_joinedTo_12 0 rfl rfl ?_
  refine r_iand 15 dX1_joinedTo_15 ?_
  refine r_ior 16 dX1_joinedTo_16 ?_
  refine r_istore_n (lv2 := [_, _, _, none]) 17 dX1_joinedTo_17 (by decide) rfl rfl ?_
  refine r_iload_n 18 dX1_joinedTo_18 rfl ?_
  refine r_aload_n 19 dX1_joinedTo_19 rfl ?_
  refine r_get 20 f_X1_36 dX1_joinedTo_20 0 rfl rfl ?_
  refine r_iand 23 dX1_joinedTo_23 ?_
  refine r_aload_n 24 dX1_joinedTo_24 rfl ?_
  refine r_get 25 f_X1_15 dX1_joinedTo_25 0 rfl rfl ?_
  refine r_ishl 28 dX1_joinedTo_28 ?_
  refine r_iload_n 29 dX1_joinedTo_29 rfl ?_
  refine r_aload_n 30 dX1_joinedTo_30 rfl ?_
  refine r_get 31 f_X1_15 dX1_joinedTo_31 0 rfl rfl ?_
  refine r_ishr 34 dX1_joinedTo_34 ?_
  refine r_aload_n 35 dX1_joinedTo_35 rfl ?_
  refine r_get 36 f_X1_36 dX1_joinedTo_36 0 rfl rfl ?_
  refine r_iand 39 dX1_joinedTo_39 ?_
  refine r_ior 40 dX1_joinedTo_40 ?_
  refine r_istore_n (lv2 := [_, _, _, _]) 41 dX1_joinedTo_41 (by decide) rfl rfl ?_
  refine r_iload_n 42 dX1_joinedTo_42 rfl ?_
  refine r_iload_n 43 dX1_joinedTo_43 rfl ?_
  refine r_ior 44 dX1_joinedTo_44 ?_
  exact r_iret 45 dX1_joinedTo_45 rfl rfl (Nat.le_of_ble_eq_true rfl) (Nat.le_of_ble_eq_true rfl) (jd rfl)
set_option maxRecDepth 100000 in
set_option maxHeartbeats 400000 in
theorem c_X1_around {G : jG} {d : Nat} {q ql qh : Nat} {r c k o n hr hb rt dn : Int32} {L Ha : Nat → Int32} {x : Int32} : Ct G yX1_around cX1_around 5 (some .int) (d + 1) 0 0 [.ref q, .int x] (wQ G q ql qh r c k o n hr hb rt dn L Ha) (jD (some (.int (joI c hr hb (1 <<< (x &&& 31))))) (wQ G q ql qh r c k o n hr hb rt dn L Ha)) := by
  refine ct_of (by decide) (Nat.le_of_ble_eq_true rfl) (own := RX1) (nm := "around") rfl rfl (lv := [some (.ref q), some (.int x), none, none, none]) rfl ?_
  refine r_iconst (v := 1) 0 dX1_around_0 (by decide) ?_
  refine r_iload_n 1 dX1_around_1 rfl ?_
  refine r_ishl 2 dX1_around_2 ?_
  refine r_istore_n (lv2 := [_, _, _, none, none]) 3 dX1_around_3 (by decide) rfl rfl ?_
  refine r_iload_n 4 dX1_around_4 rfl ?_
  refine r_aload_n 5 dX1_around_5 rfl ?_
  refine r_get 6 f_X1_27 dX1_around_6 0 rfl rfl ?_
  refine r_iand 9 dX1_around_9 ?_
  refine r_iconst (v := 1) 10 dX1_around_10 (by decide) ?_
  refine r_ishl 11 dX1_around_11 ?_
  refine r_iload_n 12 dX1_around_12 rfl ?_
  refine r_iconst (v := 1) 13 dX1_around_13 (by decide) ?_
  refine r_ishr 14 dX1_around_14 ?_
  refine r_aload_n 15 dX1_around_15 rfl ?_
  refine r_get 16 f_X1_27 dX1_around_16 0 rfl rfl ?_
  refine r_iand 19 dX1_around_19 ?_
  refine r_ior 20 dX1_around_20 ?_
  refine r_istore_n (lv2 := [_, _, _, _, none]) 21 dX1_around_21 (by decide) rfl rfl ?_
  refine r_iload_n 22 dX1_around_22 rfl ?_
  refine r_aload_n 23 dX1_around_23 rfl ?_
  refine r_get 24 f_X1_30 dX1_around_24 0 rfl rfl ?_
  refine r_iand 27 dX1_around_27 ?_
  refine r_aload_n 28 dX1_around_28 rfl ?_
  refine r_get 29 f_X1_15 dX1_around_29 0 rfl rfl ?_
  refine r_ishl 32 dX1_around_32 ?_
  refine r_iload_n 33 dX1_around_33 rfl ?_
  refine r_aload_n 34 dX1_around_34 rfl ?_
  refine r_get 35 f_X1_15 dX1_around_35 0 rfl rfl ?_
  refine r_ishr 38 dX1_around_38 ?_
  refine r_aload_n 39 dX1_around_39 rfl ?_
  refine r_get 40 f_X1_30 dX1_around_40 0 rfl rfl ?_
  refine r_iand 43 dX1_around_43 ?_
  refine r_ior 44 dX1_around_44 ?_
  refine r_istore (lv2 := [_, _, _, _, _]) 45 dX1_around_45 (by decide) rfl rfl ?_
  refine r_iload_n 47 dX1_around_47 rfl ?_
  refine r_iload 48 dX1_around_48 rfl ?_
  refine r_ior 50 dX1_around_50 ?_
  exact r_iret 51 dX1_around_51 rfl rfl (Nat.le_of_ble_eq_true rfl) (Nat.le_of_ble_eq_true rfl) (jd rfl)
set_option maxRecDepth 100000 in
set_option maxHeartbeats 400000 in
theorem c_X1_squares {G : jG} {d : Nat} {q ql qh : Nat} {r c k o n hr hb rt dn : Int32} {L Ha : Nat → Int32} : Ct G yX1_squares cX1_squares 3 (some .int) (d + 1) 0 0 [.ref q] (wQ G q ql qh r c k o n hr hb rt dn L Ha) (jD (some (.int ((((0 ||| L 0) ||| L 1) ||| L 2) ||| L 3))) (wQ G q ql qh r c k o n hr hb rt dn L Ha)) := by
  refine ct_of (by decide) (Nat.le_of_ble_eq_true rfl) (own := RX1) (nm := "squares") rfl rfl (lv := [some (.ref q), none, none]) rfl ?_
  refine r_iconst (v := 0) 0 dX1_squares_0 (by decide) ?_
  refine r_istore_n (lv2 := [_, _, none]) 1 dX1_squares_1 (by decide) rfl rfl ?_
  refine r_iconst (v := 0) 2 dX1_squares_2 (by decide) ?_
  refine r_istore_n (lv2 := [_, _, _]) 3 dX1_squares_3 (by decide) rfl rfl ?_
  refine r_iload_n 4 dX1_squares_4 rfl ?_
  refine r_iconst (v := 4) 5 dX1_squares_5 (by decide) ?_
  refine r_icmp_geF 6 24 dX1_squares_6 (by decide) (by decide) ?_
  refine r_iload_n 9 dX1_squares_9 rfl ?_
  refine r_aload_n 10 dX1_squares_10 rfl ?_
  refine r_get 11 f_X1_39 dX1_squares_11 0 rfl rfl ?_
  refine r_iload_n 14 dX1_squares_14 rfl ?_
  refine r_iaload 15 dX1_squares_15 1 rfl (vp_lit (by decide)) (show Int32.toNatClampNeg 0 = 0 by decide) ?_
  refine r_ior 16 dX1_squares_16 ?_
  refine r_istore_n (lv2 := [_, _, _]) 17 dX1_squares_17 (by decide) rfl rfl ?_
  refine r_iinc (v := 1) (lv2 := [_, _, _]) 18 dX1_squares_18 rfl (by decide) (by decide) rfl rfl ?_
  refine r_goto 21 4 dX1_squares_21 (by decide) ?_
  refine r_iload_n 4 dX1_squares_4 rfl ?_
  refine r_iconst (v := 4) 5 dX1_squares_5 (by decide) ?_
  refine r_icmp_geF 6 24 dX1_squares_6 (by decide) (by decide) ?_
  refine r_iload_n 9 dX1_squares_9 rfl ?_
  refine r_aload_n 10 dX1_squares_10 rfl ?_
  refine r_get 11 f_X1_39 dX1_squares_11 0 rfl rfl ?_
  refine r_iload_n 14 dX1_squares_14 rfl ?_
  refine r_iaload 15 dX1_squares_15 1 rfl (vp_lit (by decide)) (show Int32.toNatClampNeg 1 = 1 by decide) ?_
  refine r_ior 16 dX1_squares_16 ?_
  refine r_istore_n (lv2 := [_, _, _]) 17 dX1_squares_17 (by decide) rfl rfl ?_
  refine r_iinc (v := 2) (lv2 := [_, _, _]) 18 dX1_squares_18 rfl (by decide) (by decide) rfl rfl ?_
  refine r_goto 21 4 dX1_squares_21 (by decide) ?_
  refine r_iload_n 4 dX1_squares_4 rfl ?_
  refine r_iconst (v := 4) 5 dX1_squares_5 (by decide) ?_
  refine r_icmp_geF 6 24 dX1_squares_6 (by decide) (by decide) ?_
  refine r_iload_n 9 dX1_squares_9 rfl ?_
  refine r_aload_n 10 dX1_squares_10 rfl ?_
  refine r_get 11 f_X1_39 dX1_squares_11 0 rfl rfl ?_
  refine r_iload_n 14 dX1_squares_14 rfl ?_
  refine r_iaload 15 dX1_squares_15 1 rfl (vp_lit (by decide)) (show Int32.toNatClampNeg 2 = 2 by decide) ?_
  refine r_ior 16 dX1_squares_16 ?_
  refine r_istore_n (lv2 := [_, _, _]) 17 dX1_squares_17 (by decide) rfl rfl ?_
  refine r_iinc (v := 3) (lv2 := [_, _, _]) 18 dX1_squares_18 rfl (by decide) (by decide) rfl rfl ?_
  refine r_goto 21 4 dX1_squares_21 (by decide) ?_
  refine r_iload_n 4 dX1_squares_4 rfl ?_
  refine r_iconst (v := 4) 5 dX1_squares_5 (by decide) ?_
  refine r_icmp_geF 6 24 dX1_squares_6 (by decide) (by decide) ?_
  refine r_iload_n 9 dX1_squares_9 rfl ?_
  refine r_aload_n 10 dX1_squares_10 rfl ?_
  refine r_get 11 f_X1_39 dX1_squares_11 0 rfl rfl ?_
  refine r_iload_n 14 dX1_squares_14 rfl ?_
  refine r_iaload 15 dX1_squares_15 1 rfl (vp_lit (by decide)) (show Int32.toNatClampNeg 3 = 3 by decide) ?_
  refine r_ior 16 dX1_squares_16 ?_
  refine r_istore_n (lv2 := [_, _, _]) 17 dX1_squares_17 (by decide) rfl rfl ?_
  refine r_iinc (v := 4) (lv2 := [_, _, _]) 18 dX1_squares_18 rfl (by decide) (by decide) rfl rfl ?_
  refine r_goto 21 4 dX1_squares_21 (by decide) ?_
  refine r_iload_n 4 dX1_squares_4 rfl ?_
  refine r_iconst (v := 4) 5 dX1_squares_5 (by decide) ?_
  refine r_icmp_geT 6 24 dX1_squares_6 (by decide) (by decide) ?_
  refine r_iload_n 24 dX1_squares_24 rfl ?_
  exact r_iret 25 dX1_squares_25 rfl rfl (Nat.le_of_ble_eq_true rfl) (Nat.le_of_ble_eq_true rfl) (jd rfl)
