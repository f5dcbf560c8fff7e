section JQ2
variable {G : jG} {own nm : String} {cc : ByteArray} {nL : Nat} {ret : Option FieldType} {R : Room} {X : State → (Nat → Prop) → Prop} {E : List Frame → Array Value → State → (Nat → Prop) → State → Prop} {cells slots : Nat} {lv : List (Option Value)} {st : List Value} {ws : va_W}
theorem r_ti {pc : Nat} {x y : Int32} (hx : x = y) (h : Rn G own nm cc nL ret R X E cells slots pc lv (.int y :: st) ws) : Rn G own nm cc nL ret R X E cells slots pc lv (.int x :: st) ws := hx ▸ h
theorem r_tl {pc : Nat} {x y : Int64} (hx : x = y) (h : Rn G own nm cc nL ret R X E cells slots pc lv (.long y :: st) ws) : Rn G own nm cc nL ret R X E cells slots pc lv (.long x :: st) ws := hx ▸ h
theorem r_ws {pc : Nat} {ws2 : va_W} (hx : ws = ws2) (h : Rn G own nm cc nL ret R X E cells slots pc lv st ws2) : Rn G own nm cc nL ret R X E cells slots pc lv st ws := hx ▸ h
theorem r_lv {pc : Nat} {lv2 : List (Option Value)} (hx : lv = lv2) (h : Rn G own nm cc nL ret R X E cells slots pc lv2 st ws) : Rn G own nm cc nL ret R X E cells slots pc lv st ws := hx ▸ h
theorem r_sta {pc : Nat} {st2 : List Value} (hx : st = st2) (h : Rn G own nm cc nL ret R X E cells slots pc lv st2 ws) : Rn G own nm cc nL ret R X E cells slots pc lv st ws := hx ▸ h
end JQ2
theorem q_beside {G : jG} {d q ql qh : Nat} {S : qS} {L Ha : Nat → Int32} {z1 z2 : Int32} (hS : wf S) {X Y : Nat → Bool} : Ct G yX1_beside cX1_beside 3 (some .int) (d + 1) 0 0 [.ref q, .int (mI X), .int (mI Y)] (wQ G q ql qh (nI (sR S)) (nI (sC S)) (nI (sK S)) (nI (sO S)) (nI (sN S)) (mI (hrB S)) (mI (hbB S)) z1 z2 L Ha) (jD (some (.int (mI (besB S X Y)))) (wQ G q ql qh (nI (sR S)) (nI (sC S)) (nI (sK S)) (nI (sO S)) (nI (sN S)) (mI (hrB S)) (mI (hbB S)) z1 z2 L Ha)) := by
  rw [← bes_S hS]
  exact c_X1_beside
theorem q_below {G : jG} {d q ql qh : Nat} {S : qS} {L Ha : Nat → Int32} {z1 z2 : Int32} (hS : wf S) {X Y : Nat → Bool} : Ct G yX1_below cX1_below 3 (some .int) (d + 1) 0 0 [.ref q, .int (mI X), .int (mI Y)] (wQ G q ql qh (nI (sR S)) (nI (sC S)) (nI (sK S)) (nI (sO S)) (nI (sN S)) (mI (hrB S)) (mI (hbB S)) z1 z2 L Ha) (jD (some (.int (mI (belB S X Y)))) (wQ G q ql qh (nI (sR S)) (nI (sC S)) (nI (sK S)) (nI (sO S)) (nI (sN S)) (mI (hrB S)) (mI (hbB S)) z1 z2 L Ha)) := by
  rw [← bel_S hS]
  exact c_X1_below
theorem seB_iff {S : qS} {p q : Nat} : seB S p q = true ↔ nb S p q ∧ sqB S p = true ∧ sqB S q = true := by
  unfold seB
  rw [Bool.and_eq_true, Bool.and_eq_true, nbB_iff]
set_option maxRecDepth 100000 in
set_option maxHeartbeats 400000 in
theorem c_X1_isSeam {G : jG} {d : Nat} {q ql qh : Nat} {S : qS} (hS : wf S) {p r : Nat} (hp : p < 16) (hr : r < 16) : Ct G yX1_isSeam cX1_isSeam 4 (some .boolean) (d + 4) 0 0 [.ref q, .int (nI p), .int (nI r)] (wS G q ql qh S) (jD (some (.int (bP (seB S p r = true)))) (wS G q ql qh S)) := by
  refine ct_of (by decide) (Nat.le_of_ble_eq_true rfl) (own := RX1) (nm := "isSeam") rfl rfl (lv := [some (.ref q), some (.int (nI p)), some (.int (nI r)), none]) rfl ?_
  refine r_aload_n 0 dX1_isSeam_0 rfl ?_
  refine r_iconst (v := 1) 1 dX1_isSeam_1 (by decide) ?_
  refine r_iload_n 2 dX1_isSeam_2 rfl ?_
  refine r_ishl 3 dX1_isSeam_3 ?_
  refine r_ti (y := mI (one p)) (mI_on hp) ?_
  refine r_iconst (v := 1) 4 dX1_isSeam_4 (by decide) ?_
  refine r_iload_n 5 dX1_isSeam_5 rfl ?_
  refine r_ishl 6 dX1_isSeam_6 ?_
  refine r_ti (y := mI (one r)) (mI_on hr) ?_
  refine r_callVD (ws2 := [_, _, _]) (wr := []) 7 s_X1_87 dX1_isSeam_7 (q_beside hS) rfl rfl 0 rfl rfl rfl [0, 1, 2] [] rfl rfl rfl rfl (by decide) jRm_ok (Nat.le_of_ble_eq_true rfl) ⟨(Nat.le_of_ble_eq_true rfl), (Nat.le_of_ble_eq_true rfl)⟩ [0, 1, 2] rfl rfl ?_
  refine r_if_ne 10 26 dX1_isSeam_10 (by decide) (fun c_10 => ?_) (fun c_10 => ?_)
  · -- 10T
    refine r_iconst (v := 1) 26 dX1_isSeam_26 (by decide) ?_
    refine r_goto 27 31 dX1_isSeam_27 (by decide) ?_
    refine r_istore_n (lv2 := [_, _, _, _]) 31 dX1_isSeam_31 (by decide) rfl rfl ?_
    refine r_iload_n 32 dX1_isSeam_32 rfl ?_
    refine r_if_eqF 33 56 dX1_isSeam_33 (by decide) (by decide) ?_
    refine r_aload_n 36 dX1_isSeam_36 rfl ?_
    refine r_iload_n 37 dX1_isSeam_37 rfl ?_
    refine r_callVD (ws2 := [_, _, _]) (wr := []) 38 s_X1_94 dX1_isSeam_38 (c_X1_hasSquare hp) rfl rfl 0 rfl rfl rfl [0, 1, 2] [] rfl rfl rfl rfl (by decide) jRm_ok (Nat.le_of_ble_eq_true rfl) ⟨(Nat.le_of_ble_eq_true rfl), (Nat.le_of_ble_eq_true rfl)⟩ [0, 1, 2] rfl rfl ?_
    refine r_if_eqB 41 56 dX1_isSeam_41 (by decide) (fun c_41 => ?_) (fun c_41 => ?_)
    · -- 41T
      refine r_iconst (v := 0) 56 dX1_isSeam_56 (by decide) ?_
      exact r_iret 57 dX1_isSeam_57 rfl rfl (Nat.le_of_ble_eq_true rfl) (Nat.le_of_ble_eq_true rfl) (jd (bP_f (fun z => by obtain ⟨a, b, c⟩ := seB_iff.mp z; rw [nb_nz hS] at a; first | exact c_49 c | exact c_41 b | exact a.elim (fun y => y c_10) (fun y => y c_23))).symm)
    · -- 41F
      refine r_aload_n 44 dX1_isSeam_44 rfl ?_
      refine r_iload_n 45 dX1_isSeam_45 rfl ?_
      refine r_callVD (ws2 := [_, _, _]) (wr := []) 46 s_X1_94 dX1_isSeam_46 (c_X1_hasSquare hr) rfl rfl 0 rfl rfl rfl [0, 1, 2] [] rfl rfl rfl rfl (by decide) jRm_ok (Nat.le_of_ble_eq_true rfl) ⟨(Nat.le_of_ble_eq_true rfl), (Nat.le_of_ble_eq_true rfl)⟩ [0, 1, 2] rfl rfl ?_
      refine r_if_eqB 49 56 dX1_isSeam_49 (by decide) (fun c_49 => ?_) (fun c_49 => ?_)
      · -- 49T
        refine r_iconst (v := 0) 56 dX1_isSeam_56 (by decide) ?_
        exact r_iret 57 dX1_isSeam_57 rfl rfl (Nat.le_of_ble_eq_true rfl) (Nat.le_of_ble_eq_true rfl) (jd (bP_f (fun z => by obtain ⟨a, b, c⟩ := seB_iff.mp z; rw [nb_nz hS] at a; first | exact c_49 c | exact c_41 b | exact a.elim (fun y => y c_10) (fun y => y c_23))).symm)
      · -- 49F
        refine r_iconst (v := 1) 52 dX1_isSeam_52 (by decide) ?_
        refine r_goto 53 57 dX1_isSeam_53 (by decide) ?_
        exact r_iret 57 dX1_isSeam_57 rfl rfl (Nat.le_of_ble_eq_true rfl) (Nat.le_of_ble_eq_true rfl) (jd (bP_t (seB_iff.mpr ⟨(nb_nz hS).mpr (by first | exact Or.inr c_23 | exact Or.inl c_10), c_41, c_49⟩)).symm)
  · -- 10F
    refine r_aload_n 13 dX1_isSeam_13 rfl ?_
    refine r_iconst (v := 1) 14 dX1_isSeam_14 (by decide) ?_
    refine r_iload_n 15 dX1_isSeam_15 rfl ?_
    refine r_ishl 16 dX1_isSeam_16 ?_
    refine r_ti (y := mI (one p)) (mI_on hp) ?_
    refine r_iconst (v := 1) 17 dX1_isSeam_17 (by decide) ?_
    refine r_iload_n 18 dX1_isSeam_18 rfl ?_
    refine r_ishl 19 dX1_isSeam_19 ?_
    refine r_ti (y := mI (one r)) (mI_on hr) ?_
    refine r_callVD (ws2 := [_, _, _]) (wr := []) 20 s_X1_91 dX1_isSeam_20 (q_below hS) rfl rfl 0 rfl rfl rfl [0, 1, 2] [] rfl rfl rfl rfl (by decide) jRm_ok (Nat.le_of_ble_eq_true rfl) ⟨(Nat.le_of_ble_eq_true rfl), (Nat.le_of_ble_eq_true rfl)⟩ [0, 1, 2] rfl rfl ?_
    refine r_if_eq 23 30 dX1_isSeam_23 (by decide) (fun c_23 => ?_) (fun c_23 => ?_)
    · -- 23T
      refine r_iconst (v := 0) 30 dX1_isSeam_30 (by decide) ?_
      refine r_istore_n (lv2 := [_, _, _, _]) 31 dX1_isSeam_31 (by decide) rfl rfl ?_
      refine r_iload_n 32 dX1_isSeam_32 rfl ?_
      refine r_if_eqT 33 56 dX1_isSeam_33 (by decide) (by decide) ?_
      refine r_iconst (v := 0) 56 dX1_isSeam_56 (by decide) ?_
      exact r_iret 57 dX1_isSeam_57 rfl rfl (Nat.le_of_ble_eq_true rfl) (Nat.le_of_ble_eq_true rfl) (jd (bP_f (fun z => by obtain ⟨a, b, c⟩ := seB_iff.mp z; rw [nb_nz hS] at a; first | exact c_49 c | exact c_41 b | exact a.elim (fun y => y c_10) (fun y => y c_23))).symm)
    · -- 23F
      refine r_iconst (v := 1) 26 dX1_isSeam_26 (by decide) ?_
      refine r_goto 27 31 dX1_isSeam_27 (by decide) ?_
      refine r_istore_n (lv2 := [_, _, _, _]) 31 dX1_isSeam_31 (by decide) rfl rfl ?_
      refine r_iload_n 32 dX1_isSeam_32 rfl ?_
      refine r_if_eqF 33 56 dX1_isSeam_33 (by decide) (by decide) ?_
      refine r_aload_n 36 dX1_isSeam_36 rfl ?_
      refine r_iload_n 37 dX1_isSeam_37 rfl ?_
      refine r_callVD (ws2 := [_, _, _]) (wr := []) 38 s_X1_94 dX1_isSeam_38 (c_X1_hasSquare hp) rfl rfl 0 rfl rfl rfl [0, 1, 2] [] rfl rfl rfl rfl (by decide) jRm_ok (Nat.le_of_ble_eq_true rfl) ⟨(Nat.le_of_ble_eq_true rfl), (Nat.le_of_ble_eq_true rfl)⟩ [0, 1, 2] rfl rfl ?_
      refine r_if_eqB 41 56 dX1_isSeam_41 (by decide) (fun c_41 => ?_) (fun c_41 => ?_)
      · -- 41T
        refine r_iconst (v := 0) 56 dX1_isSeam_56 (by decide) ?_
        exact r_iret 57 dX1_isSeam_57 rfl rfl (Nat.le_of_ble_eq_true rfl) (Nat.le_of_ble_eq_true rfl) (jd (bP_f (fun z => by obtain ⟨a, b, c⟩ := seB_iff.mp z; rw [nb_nz hS] at a; first | exact c_49 c | exact c_41 b | exact a.elim (fun y => y c_10) (fun y => y c_23))).symm)
      · -- 41F
        refine r_aload_n 44 dX1_isSeam_44 rfl ?_
        refine r_iload_n 45 dX1_isSeam_45 rfl ?_
        refine r_callVD (ws2 := [_, _, _]) (wr := []) 46 s_X1_94 dX1_isSeam_46 (c_X1_hasSquare hr) rfl rfl 0 rfl rfl rfl [0, 1, 2] [] rfl rfl rfl rfl (by decide) jRm_ok (Nat.le_of_ble_eq_true rfl) ⟨(Nat.le_of_ble_eq_true rfl), (Nat.le_of_ble_eq_true rfl)⟩ [0, 1, 2] rfl rfl ?_
        refine r_if_eqB 49 56 dX1_isSeam_49 (by decide) (fun c_49 => ?_) (fun c_49 => ?_)
        · -- 49T
          refine r_iconst (v := 0) 56 dX1_isSeam_56 (by decide) ?_
          exact r_iret 57 dX1_isSeam_57 rfl rfl (Nat.le_of_ble_eq_true rfl) (Nat.le_of_ble_eq_true rfl) (jd (bP_f (fun z => by obtain ⟨a, b, c⟩ := seB_iff.mp z; rw [nb_nz hS] at a; first | exact c_49 c | exact c_41 b | exact a.elim (fun y => y c_10) (fun y => y c_23))).symm)
        · -- 49F
          refine r_iconst (v := 1) 52 dX1_isSeam_52 (by decide) ?_
          refine r_goto 53 57 dX1_isSeam_53 (by decide) ?_
          exact r_iret 57 dX1_isSeam_57 rfl rfl (Nat.le_of_ble_eq_true rfl) (Nat.le_of_ble_eq_true rfl) (jd (bP_t (seB_iff.mpr ⟨(nb_nz hS).mpr (by first | exact Or.inr c_23 | exact Or.inl c_10), c_41, c_49⟩)).symm)
set_option maxRecDepth 100000 in
set_option maxHeartbeats 400000 in
theorem c_X1_countBetween {G : jG} {d : Nat} {q ql qh : Nat} {S : qS} (hS : wf S) {X Y : Nat → Bool} : Ct G yX1_countBetween cX1_countBetween 3 (some .int) (d + 2) 0 0 [.ref q, .int (mI X), .int (mI Y)] (wS G q ql qh S) (jD (some (.int (nI (cbN S X Y)))) (wS G q ql qh S)) := by
  refine ct_of (by decide) (Nat.le_of_ble_eq_true rfl) (own := RX1) (nm := "countBetween") rfl rfl (lv := [some (.ref q), some (.int (mI X)), some (.int (mI Y))]) rfl ?_
  refine r_aload_n 0 dX1_countBetween_0 rfl ?_
  refine r_get 1 f_X1_33 dX1_countBetween_1 0 rfl rfl ?_
  refine r_aload_n 4 dX1_countBetween_4 rfl ?_
  refine r_iload_n 5 dX1_countBetween_5 rfl ?_
  refine r_iload_n 6 dX1_countBetween_6 rfl ?_
  refine r_callVD (ws2 := [_, _, _]) (wr := []) 7 s_X1_87 dX1_countBetween_7 (q_beside hS) rfl rfl 0 rfl rfl rfl [0, 1, 2] [] rfl rfl rfl rfl (by decide) jRm_ok (Nat.le_of_ble_eq_true rfl) ⟨(Nat.le_of_ble_eq_true rfl), (Nat.le_of_ble_eq_true rfl)⟩ [0, 1, 2] rfl rfl ?_
  refine r_iand 10 dX1_countBetween_10 ?_
  refine r_ti (y := mI (fun i => rtB S i && besB S X Y i)) (mI_and _ _) ?_
  refine r_callSD (ws2 := [_, _, _]) (wr := [_, _, _]) 11 s_X1_106 dX1_countBetween_11 (c_bitCount) rfl rfl [] [0, 1, 2] rfl rfl rfl rfl (by decide) jRm_ok (Nat.le_of_ble_eq_true rfl) ⟨(Nat.le_of_ble_eq_true rfl), (Nat.le_of_ble_eq_true rfl)⟩ [0, 1, 2] rfl rfl ?_
  refine r_aload_n 14 dX1_countBetween_14 rfl ?_
  refine r_get 15 f_X1_36 dX1_countBetween_15 0 rfl rfl ?_
  refine r_aload_n 18 dX1_countBetween_18 rfl ?_
  refine r_iload_n 19 dX1_countBetween_19 rfl ?_
  refine r_iload_n 20 dX1_countBetween_20 rfl ?_
  refine r_callVD (ws2 := [_, _, _]) (wr := []) 21 s_X1_91 dX1_countBetween_21 (q_below hS) rfl rfl 0 rfl rfl rfl [0, 1, 2] [] rfl rfl rfl rfl (by decide) jRm_ok (Nat.le_of_ble_eq_true rfl) ⟨(Nat.le_of_ble_eq_true rfl), (Nat.le_of_ble_eq_true rfl)⟩ [0, 1, 2] rfl rfl ?_
  refine r_iand 24 dX1_countBetween_24 ?_
  refine r_ti (y := mI (fun i => dnB S i && belB S X Y i)) (mI_and _ _) ?_
  refine r_callSD (ws2 := [_, _, _]) (wr := [_, _, _]) 25 s_X1_106 dX1_countBetween_25 (c_bitCount) rfl rfl [] [0, 1, 2] rfl rfl rfl rfl (by decide) jRm_ok (Nat.le_of_ble_eq_true rfl) ⟨(Nat.le_of_ble_eq_true rfl), (Nat.le_of_ble_eq_true rfl)⟩ [0, 1, 2] rfl rfl ?_
  refine r_iadd 28 dX1_countBetween_28 ?_
  refine r_ti (y := nI (cbN S X Y)) (nI_add _ _) ?_
  exact r_iret 29 dX1_countBetween_29 rfl rfl (Nat.le_of_ble_eq_true rfl) (Nat.le_of_ble_eq_true rfl) (jd rfl)
theorem cbN_lt {S : qS} {X Y : Nat → Bool} : cbN S X Y ≤ 32 := by
  have h1 := cnt_le (fun i => rtB S i && besB S X Y i) 16
  have h2 := cnt_le (fun i => dnB S i && belB S X Y i) 16
  unfold cbN
  omega
theorem nI_z {n : Nat} (h : n < 2 ^ 31) : nI n = 0 ↔ n = 0 := by
  rw [← nI_0, nI_eq h (by decide)]
set_option maxRecDepth 100000 in
set_option maxHeartbeats 400000 in
theorem c_X1_isSewn {G : jG} {d : Nat} {q ql qh : Nat} {S : qS} (hS : wf S) {p r : Nat} (hp : p < 16) (hr : r < 16) : Ct G yX1_isSewn cX1_isSewn 3 (some .boolean) (d + 3) 0 0 [.ref q, .int (nI p), .int (nI r)] (wS G q ql qh S) (jD (some (.int (bP (sW S p r = true)))) (wS G q ql qh S)) := by
  refine ct_of (by decide) (Nat.le_of_ble_eq_true rfl) (own := RX1) (nm := "isSewn") rfl rfl (lv := [some (.ref q), some (.int (nI p)), some (.int (nI r))]) rfl ?_
  refine r_aload_n 0 dX1_isSewn_0 rfl ?_
  refine r_iconst (v := 1) 1 dX1_isSewn_1 (by decide) ?_
  refine r_iload_n 2 dX1_isSewn_2 rfl ?_
  refine r_ishl 3 dX1_isSewn_3 ?_
  refine r_ti (y := mI (one p)) (mI_on hp) ?_
  refine r_iconst (v := 1) 4 dX1_isSewn_4 (by decide) ?_
  refine r_iload_n 5 dX1_isSewn_5 rfl ?_
  refine r_ishl 6 dX1_isSewn_6 ?_
  refine r_ti (y := mI (one r)) (mI_on hr) ?_
  refine r_callVD (ws2 := [_, _, _]) (wr := []) 7 s_X1_97 dX1_isSewn_7 (c_X1_countBetween hS) rfl rfl 0 rfl rfl rfl [0, 1, 2] [] rfl rfl rfl rfl (by decide) jRm_ok (Nat.le_of_ble_eq_true rfl) ⟨(Nat.le_of_ble_eq_true rfl), (Nat.le_of_ble_eq_true rfl)⟩ [0, 1, 2] rfl rfl ?_
  refine r_if_eq 10 17 dX1_isSewn_10 (by decide) (fun c_10 => ?_) (fun c_10 => ?_)
  · -- 10T
    refine r_iconst (v := 0) 17 dX1_isSewn_17 (by decide) ?_
    exact r_iret 18 dX1_isSewn_18 rfl rfl (Nat.le_of_ble_eq_true rfl) (Nat.le_of_ble_eq_true rfl) (jd (bP_f (fun z => by have h := c_10; rw [nI_z (Nat.lt_of_le_of_lt cbN_lt (by decide)), cb_sewn hS, z] at h; cases h)).symm)
  · -- 10F
    refine r_iconst (v := 1) 13 dX1_isSewn_13 (by decide) ?_
    refine r_goto 14 18 dX1_isSewn_14 (by decide) ?_
    exact r_iret 18 dX1_isSewn_18 rfl rfl (Nat.le_of_ble_eq_true rfl) (Nat.le_of_ble_eq_true rfl) (jd (bP_t (by have h := c_10; rw [nI_z (Nat.lt_of_le_of_lt cbN_lt (by decide)), cb_sewn hS] at h; simpa using h)).symm)
theorem c_isFam1 {G : jG} {d : Nat} {f : Nat} (hf : f < 4) : Ct G yX2_isFamily cX2_isFamily 1 (some .boolean) (d + 2) 0 0 [.int (nI f)] [] (jD (some (.int 1)) []) := by
  have h := @c_X2_isFamily G d (nI f)
  rwa [bP_t (show 0 ≤ nI f ∧ nI f ≤ 3 from ⟨nI_pos' (by omega), nI_le (b := 3) (by omega) (by decide)⟩)] at h
theorem c_isFam0 {G : jG} {d : Nat} {x : Int32} (hf : ¬ (0 ≤ x ∧ x ≤ 3)) : Ct G yX2_isFamily cX2_isFamily 1 (some .boolean) (d + 2) 0 0 [.int x] [] (jD (some (.int 0)) []) := by
  have h := @c_X2_isFamily G d x
  rwa [bP_f hf] at h
theorem fI_no : ¬ ((0 : Int32) ≤ -6 ∧ (-6 : Int32) ≤ 3) := by decide
set_option maxRecDepth 100000 in
set_option maxHeartbeats 400000 in
theorem q_foesOf {G : jG} {d : Nat} {q ql qh : Nat} {S : qS} {f : Nat} (hf : f < 4) : Ct G yX1_foesOf cX1_foesOf 2 (some .int) (d + 3) 0 0 [.ref q, .int (nI f)] (wS G q ql qh S) (jD (some (.int (mI (sE S f)))) (wS G q ql qh S)) := by
  refine ct_of (by decide) (Nat.le_of_ble_eq_true rfl) (own := RX1) (nm := "foesOf") rfl rfl (lv := [some (.ref q), some (.int (nI f))]) rfl ?_
  refine r_iload_n 0 dX1_foesOf_0 rfl ?_
  refine r_callND (ws2 := [_, _, _]) (wr := [_, _, _]) 1 s_X1_80 dX1_foesOf_1 (c_isFam1 hf) rfl rfl [] [0, 1, 2] rfl rfl rfl rfl (by decide) jRm_ok (Nat.le_of_ble_eq_true rfl) ⟨(Nat.le_of_ble_eq_true rfl), (Nat.le_of_ble_eq_true rfl)⟩ [0, 1, 2] rfl rfl ?_
  refine r_if_eqF 4 16 dX1_foesOf_4 (by decide) (by decide) ?_
  refine r_aload_n 7 dX1_foesOf_7 rfl ?_
  refine r_get 8 f_X1_43 dX1_foesOf_8 0 rfl rfl ?_
  refine r_iload_n 11 dX1_foesOf_11 rfl ?_
  refine r_iaload 12 dX1_foesOf_12 2 rfl (vp_in_nI (by omega) (by decide)) (nI_clamp (by omega)) ?_
  refine r_goto 13 17 dX1_foesOf_13 (by decide) ?_
  exact r_iret 17 dX1_foesOf_17 rfl rfl (Nat.le_of_ble_eq_true rfl) (Nat.le_of_ble_eq_true rfl) (jd rfl)
set_option maxRecDepth 100000 in
set_option maxHeartbeats 400000 in
theorem q_foesOf0 {G : jG} {d : Nat} {q ql qh : Nat} {S : qS} {x : Int32} (hf : ¬ (0 ≤ x ∧ x ≤ 3)) : Ct G yX1_foesOf cX1_foesOf 2 (some .int) (d + 3) 0 0 [.ref q, .int x] (wS G q ql qh S) (jD (some (.int 0)) (wS G q ql qh S)) := by
  refine ct_of (by decide) (Nat.le_of_ble_eq_true rfl) (own := RX1) (nm := "foesOf") rfl rfl (lv := [some (.ref q), some (.int x)]) rfl ?_
  refine r_iload_n 0 dX1_foesOf_0 rfl ?_
  refine r_callND (ws2 := [_, _, _]) (wr := [_, _, _]) 1 s_X1_80 dX1_foesOf_1 (c_isFam0 hf) rfl rfl [] [0, 1, 2] rfl rfl rfl rfl (by decide) jRm_ok (Nat.le_of_ble_eq_true rfl) ⟨(Nat.le_of_ble_eq_true rfl), (Nat.le_of_ble_eq_true rfl)⟩ [0, 1, 2] rfl rfl ?_
  refine r_if_eqT 4 16 dX1_foesOf_4 (by decide) (by decide) ?_
  refine r_iconst (v := 0) 16 dX1_foesOf_16 (by decide) ?_
  exact r_iret 17 dX1_foesOf_17 rfl rfl (Nat.le_of_ble_eq_true rfl) (Nat.le_of_ble_eq_true rfl) (jd rfl)
set_option maxRecDepth 100000 in
set_option maxHeartbeats 400000 in
theorem c_X1_isSeamOfFoes {G : jG} {d : Nat} {q ql qh : Nat} {S : qS} {p r : Nat} (hp : p < 16) (hr : r < 16) (hfp : sF S p < 4) (hfr : sF S r < 4) : Ct G yX1_isSeamOfFoes cX1_isSeamOfFoes 4 (some .boolean) (d + 4) 0 0 [.ref q, .int (nI p), .int (nI r)] (wS G q ql qh S) (jD (some (.int (bP (sE S (sF S p) (sF S r) = true)))) (wS G q ql qh S)) := by
  refine ct_of (by decide) (Nat.le_of_ble_eq_true rfl) (own := RX1) (nm := "isSeamOfFoes") rfl rfl (lv := [some (.ref q), some (.int (nI p)), some (.int (nI r)), none]) rfl ?_
  refine r_aload_n 0 dX1_isSeamOfFoes_0 rfl ?_
  refine r_iload_n 1 dX1_isSeamOfFoes_1 rfl ?_
  refine r_callVD (ws2 := [_, _, _]) (wr := []) 2 s_X1_62 dX1_isSeamOfFoes_2 (c_X1_familyAt hr) rfl rfl 0 rfl rfl rfl [0, 1, 2] [] rfl rfl rfl rfl (by decide) jRm_ok (Nat.le_of_ble_eq_true rfl) ⟨(Nat.le_of_ble_eq_true rfl), (Nat.le_of_ble_eq_true rfl)⟩ [0, 1, 2] rfl rfl ?_
  refine r_ti (y := nI (sF S r)) (fI_lt hfr) ?_
  refine r_istore_n (lv2 := [_, _, _, _]) 5 dX1_isSeamOfFoes_5 (by decide) rfl rfl ?_
  refine r_iload_n 6 dX1_isSeamOfFoes_6 rfl ?_
  refine r_callND (ws2 := [_, _, _]) (wr := [_, _, _]) 7 s_X1_80 dX1_isSeamOfFoes_7 (c_isFam1 hfr) rfl rfl [] [0, 1, 2] rfl rfl rfl rfl (by decide) jRm_ok (Nat.le_of_ble_eq_true rfl) ⟨(Nat.le_of_ble_eq_true rfl), (Nat.le_of_ble_eq_true rfl)⟩ [0, 1, 2] rfl rfl ?_
  refine r_if_eqF 10 33 dX1_isSeamOfFoes_10 (by decide) (by decide) ?_
  refine r_aload_n 13 dX1_isSeamOfFoes_13 rfl ?_
  refine r_aload_n 14 dX1_isSeamOfFoes_14 rfl ?_
  refine r_iload_n 15 dX1_isSeamOfFoes_15 rfl ?_
  refine r_callVD (ws2 := [_, _, _]) (wr := []) 16 s_X1_62 dX1_isSeamOfFoes_16 (c_X1_familyAt hp) rfl rfl 0 rfl rfl rfl [0, 1, 2] [] rfl rfl rfl rfl (by decide) jRm_ok (Nat.le_of_ble_eq_true rfl) ⟨(Nat.le_of_ble_eq_true rfl), (Nat.le_of_ble_eq_true rfl)⟩ [0, 1, 2] rfl rfl ?_
  refine r_ti (y := nI (sF S p)) (fI_lt hfp) ?_
  refine r_callVD (ws2 := [_, _, _]) (wr := []) 19 s_X1_100 dX1_isSeamOfFoes_19 (q_foesOf hfp) rfl rfl 0 rfl rfl rfl [0, 1, 2] [] rfl rfl rfl rfl (by decide) jRm_ok (Nat.le_of_ble_eq_true rfl) ⟨(Nat.le_of_ble_eq_true rfl), (Nat.le_of_ble_eq_true rfl)⟩ [0, 1, 2] rfl rfl ?_
  refine r_iload_n 22 dX1_isSeamOfFoes_22 rfl ?_
  refine r_callND (ws2 := [_, _, _]) (wr := [_, _, _]) 23 s_X1_69 dX1_isSeamOfFoes_23 (c_has (Nat.lt_trans hfr (by decide))) rfl rfl [] [0, 1, 2] rfl rfl rfl rfl (by decide) jRm_ok (Nat.le_of_ble_eq_true rfl) ⟨(Nat.le_of_ble_eq_true rfl), (Nat.le_of_ble_eq_true rfl)⟩ [0, 1, 2] rfl rfl ?_
  refine r_if_eqB 26 33 dX1_isSeamOfFoes_26 (by decide) (fun c_26 => ?_) (fun c_26 => ?_)
  · -- 26T
    refine r_iconst (v := 0) 33 dX1_isSeamOfFoes_33 (by decide) ?_
    exact r_iret 34 dX1_isSeamOfFoes_34 rfl rfl (Nat.le_of_ble_eq_true rfl) (Nat.le_of_ble_eq_true rfl) (jd (bP_f (c_26)).symm)
  · -- 26F
    refine r_iconst (v := 1) 29 dX1_isSeamOfFoes_29 (by decide) ?_
    refine r_goto 30 34 dX1_isSeamOfFoes_30 (by decide) ?_
    exact r_iret 34 dX1_isSeamOfFoes_34 rfl rfl (Nat.le_of_ble_eq_true rfl) (Nat.le_of_ble_eq_true rfl) (jd (bP_t (c_26)).symm)
def thN (S : qS) (p r : Nat) : Nat := if sF S p = sF S r then sK S else sO S
theorem fI_inj {a b : Nat} (ha : a ≤ 4) (hb : b ≤ 4) : fI a = fI b ↔ a = b := by
  have h : ∀ a, a < 5 → ∀ b, b < 5 → (fI a = fI b ↔ a = b) := by decide +kernel
  exact h a (by omega) b (by omega)
set_option maxRecDepth 100000 in
set_option maxHeartbeats 400000 in
theorem c_X1_threadOf {G : jG} {d : Nat} {q ql qh : Nat} {S : qS} (hS : wf S) {p r : Nat} (hp : p < 16) (hr : r < 16) : Ct G yX1_threadOf cX1_threadOf 3 (some .int) (d + 3) 0 0 [.ref q, .int (nI p), .int (nI r)] (wS G q ql qh S) (jD (some (.int (nI (thN S p r)))) (wS G q ql qh S)) := by
  refine ct_of (by decide) (Nat.le_of_ble_eq_true rfl) (own := RX1) (nm := "threadOf") rfl rfl (lv := [some (.ref q), some (.int (nI p)), some (.int (nI r))]) rfl ?_
  refine r_aload_n 0 dX1_threadOf_0 rfl ?_
  refine r_iload_n 1 dX1_threadOf_1 rfl ?_
  refine r_callVD (ws2 := [_, _, _]) (wr := []) 2 s_X1_62 dX1_threadOf_2 (c_X1_familyAt hp) rfl rfl 0 rfl rfl rfl [0, 1, 2] [] rfl rfl rfl rfl (by decide) jRm_ok (Nat.le_of_ble_eq_true rfl) ⟨(Nat.le_of_ble_eq_true rfl), (Nat.le_of_ble_eq_true rfl)⟩ [0, 1, 2] rfl rfl ?_
  refine r_aload_n 5 dX1_threadOf_5 rfl ?_
  refine r_iload_n 6 dX1_threadOf_6 rfl ?_
  refine r_callVD (ws2 := [_, _, _]) (wr := []) 7 s_X1_62 dX1_threadOf_7 (c_X1_familyAt hr) rfl rfl 0 rfl rfl rfl [0, 1, 2] [] rfl rfl rfl rfl (by decide) jRm_ok (Nat.le_of_ble_eq_true rfl) ⟨(Nat.le_of_ble_eq_true rfl), (Nat.le_of_ble_eq_true rfl)⟩ [0, 1, 2] rfl rfl ?_
  refine r_icmp_ne 10 20 dX1_threadOf_10 (by decide) (fun c_10 => ?_) (fun c_10 => ?_)
  · -- 10T
    refine r_aload_n 20 dX1_threadOf_20 rfl ?_
    refine r_get 21 f_X1_21 dX1_threadOf_21 0 rfl rfl ?_
    exact r_iret 24 dX1_threadOf_24 rfl rfl (Nat.le_of_ble_eq_true rfl) (Nat.le_of_ble_eq_true rfl) (jd (by unfold thN; rw [fI_inj (hS.f4 _) (hS.f4 _)] at c_10; simp [c_10]))
  · -- 10F
    refine r_aload_n 13 dX1_threadOf_13 rfl ?_
    refine r_get 14 f_X1_18 dX1_threadOf_14 0 rfl rfl ?_
    refine r_goto 17 24 dX1_threadOf_17 (by decide) ?_
    exact r_iret 24 dX1_threadOf_24 rfl rfl (Nat.le_of_ble_eq_true rfl) (Nat.le_of_ble_eq_true rfl) (jd (by unfold thN; rw [fI_inj (hS.f4 _) (hS.f4 _)] at c_10; simp [c_10]))
set_option maxRecDepth 100000 in
set_option maxHeartbeats 400000 in
theorem c_X1_join {G : jG} {d : Nat} {q ql qh : Nat} {S : qS} {L Ha : Nat → Int32} (hS : wf S) {p r : Nat} (hp : p < 16) (hr : r < 16) (h : nb S p r) : Ct G yX1_join cX1_join 3 none (d + 2) 0 0 [.ref q, .int (nI p), .int (nI r)] (wQ G q ql qh (nI (sR S)) (nI (sC S)) (nI (sK S)) (nI (sO S)) (nI (sN S)) (mI (hrB S)) (mI (hbB S)) (mI (rtB S)) (mI (dnB S)) L Ha) (jD none (wQ G q ql qh (nI (sR S)) (nI (sC S)) (nI (sK S)) (nI (sO S)) (nI (sN S)) (mI (hrB S)) (mI (hbB S)) (mI (rtB (sSetW S (joW S p r)))) (mI (dnB (sSetW S (joW S p r)))) L Ha)) := by
  refine ct_of (by decide) (Nat.le_of_ble_eq_true rfl) (own := RX1) (nm := "join") rfl rfl (lv := [some (.ref q), some (.int (nI p)), some (.int (nI r))]) rfl ?_
  refine r_aload_n 0 dX1_join_0 rfl ?_
  refine r_dup 1 dX1_join_1 rfl ?_
  refine r_get 2 f_X1_33 dX1_join_2 0 rfl rfl ?_
  refine r_aload_n 5 dX1_join_5 rfl ?_
  refine r_iconst (v := 1) 6 dX1_join_6 (by decide) ?_
  refine r_iload_n 7 dX1_join_7 rfl ?_
  refine r_ishl 8 dX1_join_8 ?_
  refine r_ti (y := mI (one p)) (mI_on hp) ?_
  refine r_iconst (v := 1) 9 dX1_join_9 (by decide) ?_
  refine r_iload_n 10 dX1_join_10 rfl ?_
  refine r_ishl 11 dX1_join_11 ?_
  refine r_ti (y := mI (one r)) (mI_on hr) ?_
  refine r_callVD (ws2 := [_, _, _]) (wr := []) 12 s_X1_87 dX1_join_12 (q_beside hS) rfl rfl 0 rfl rfl rfl [0, 1, 2] [] rfl rfl rfl rfl (by decide) jRm_ok (Nat.le_of_ble_eq_true rfl) ⟨(Nat.le_of_ble_eq_true rfl), (Nat.le_of_ble_eq_true rfl)⟩ [0, 1, 2] rfl rfl ?_
  refine r_ior 15 dX1_join_15 ?_
  refine r_ti (y := mI (rtB (sSetW S (joW S p r)))) (jo_rt hS h) ?_
  refine r_put (ws2 := [(_, .inr (_, [_, _, _, _, _, _, _, _, _, _, _])), _, _]) 16 p_X1_33 dX1_join_16 0 rfl rfl rfl (Nat.le_of_ble_eq_true rfl) rfl ?_
  refine r_aload_n 19 dX1_join_19 rfl ?_
  refine r_dup 20 dX1_join_20 rfl ?_
  refine r_get 21 f_X1_36 dX1_join_21 0 rfl rfl ?_
  refine r_aload_n 24 dX1_join_24 rfl ?_
  refine r_iconst (v := 1) 25 dX1_join_25 (by decide) ?_
  refine r_iload_n 26 dX1_join_26 rfl ?_
  refine r_ishl 27 dX1_join_27 ?_
  refine r_ti (y := mI (one p)) (mI_on hp) ?_
  refine r_iconst (v := 1) 28 dX1_join_28 (by decide) ?_
  refine r_iload_n 29 dX1_join_29 rfl ?_
  refine r_ishl 30 dX1_join_30 ?_
  refine r_ti (y := mI (one r)) (mI_on hr) ?_
  refine r_callVD (ws2 := [_, _, _]) (wr := []) 31 s_X1_91 dX1_join_31 (q_below hS) rfl rfl 0 rfl rfl rfl [0, 1, 2] [] rfl rfl rfl rfl (by decide) jRm_ok (Nat.le_of_ble_eq_true rfl) ⟨(Nat.le_of_ble_eq_true rfl), (Nat.le_of_ble_eq_true rfl)⟩ [0, 1, 2] rfl rfl ?_
  refine r_ior 34 dX1_join_34 ?_
  refine r_ti (y := mI (dnB (sSetW S (joW S p r)))) (jo_dn hS h) ?_
  refine r_put (ws2 := [(_, .inr (_, [_, _, _, _, _, _, _, _, _, _, _])), _, _]) 35 p_X1_36 dX1_join_35 0 rfl rfl rfl (Nat.le_of_ble_eq_true rfl) rfl ?_
  exact r_ret 38 dX1_join_38 rfl (Nat.le_of_ble_eq_true rfl) (Nat.le_of_ble_eq_true rfl) (jdv rfl)
set_option maxRecDepth 100000 in
set_option maxHeartbeats 400000 in
theorem c_X1_loosen {G : jG} {d : Nat} {q ql qh : Nat} {S : qS} {L Ha : Nat → Int32} (hS : wf S) {X Y : Nat → Bool} : Ct G yX1_loosen cX1_loosen 3 none (d + 2) 0 0 [.ref q, .int (mI X), .int (mI Y)] (wQ G q ql qh (nI (sR S)) (nI (sC S)) (nI (sK S)) (nI (sO S)) (nI (sN S)) (mI (hrB S)) (mI (hbB S)) (mI (rtB S)) (mI (dnB S)) L Ha) (jD none (wQ G q ql qh (nI (sR S)) (nI (sC S)) (nI (sK S)) (nI (sO S)) (nI (sN S)) (mI (hrB S)) (mI (hbB S)) (mI (rtB (sSetW S (loW S X Y)))) (mI (dnB (sSetW S (loW S X Y)))) L Ha)) := by
  refine ct_of (by decide) (Nat.le_of_ble_eq_true rfl) (own := RX1) (nm := "loosen") rfl rfl (lv := [some (.ref q), some (.int (mI X)), some (.int (mI Y))]) rfl ?_
  refine r_aload_n 0 dX1_loosen_0 rfl ?_
  refine r_dup 1 dX1_loosen_1 rfl ?_
  refine r_get 2 f_X1_33 dX1_loosen_2 0 rfl rfl ?_
  refine r_aload_n 5 dX1_loosen_5 rfl ?_
  refine r_iload_n 6 dX1_loosen_6 rfl ?_
  refine r_iload_n 7 dX1_loosen_7 rfl ?_
  refine r_callVD (ws2 := [_, _, _]) (wr := []) 8 s_X1_87 dX1_loosen_8 (q_beside hS) rfl rfl 0 rfl rfl rfl [0, 1, 2] [] rfl rfl rfl rfl (by decide) jRm_ok (Nat.le_of_ble_eq_true rfl) ⟨(Nat.le_of_ble_eq_true rfl), (Nat.le_of_ble_eq_true rfl)⟩ [0, 1, 2] rfl rfl ?_
  refine r_iconst (v := -1) 11 dX1_loosen_11 (by decide) ?_
  refine r_ixor 12 dX1_loosen_12 ?_
  refine r_iand 13 dX1_loosen_13 ?_
  refine r_ti (y := mI (rtB (sSetW S (loW S X Y)))) (lo_rt hS X Y) ?_
  refine r_put (ws2 := [(_, .inr (_, [_, _, _, _, _, _, _, _, _, _, _])), _, _]) 14 p_X1_33 dX1_loosen_14 0 rfl rfl rfl (Nat.le_of_ble_eq_true rfl) rfl ?_
  refine r_aload_n 17 dX1_loosen_17 rfl ?_
  refine r_dup 18 dX1_loosen_18 rfl ?_
  refine r_get 19 f_X1_36 dX1_loosen_19 0 rfl rfl ?_
  refine r_aload_n 22 dX1_loosen_22 rfl ?_
  refine r_iload_n 23 dX1_loosen_23 rfl ?_
  refine r_iload_n 24 dX1_loosen_24 rfl ?_
  refine r_callVD (ws2 := [_, _, _]) (wr := []) 25 s_X1_91 dX1_loosen_25 (q_below hS) rfl rfl 0 rfl rfl rfl [0, 1, 2] [] rfl rfl rfl rfl (by decide) jRm_ok (Nat.le_of_ble_eq_true rfl) ⟨(Nat.le_of_ble_eq_true rfl), (Nat.le_of_ble_eq_true rfl)⟩ [0, 1, 2] rfl rfl ?_
  refine r_iconst (v := -1) 28 dX1_loosen_28 (by decide) ?_
  refine r_ixor 29 dX1_loosen_29 ?_
  refine r_iand 30 dX1_loosen_30 ?_
  refine r_ti (y := mI (dnB (sSetW S (loW S X Y)))) (lo_dn hS X Y) ?_
  refine r_put (ws2 := [(_, .inr (_, [_, _, _, _, _, _, _, _, _, _, _])), _, _]) 31 p_X1_36 dX1_loosen_31 0 rfl rfl rfl (Nat.le_of_ble_eq_true rfl) rfl ?_
  exact r_ret 34 dX1_loosen_34 rfl (Nat.le_of_ble_eq_true rfl) (Nat.le_of_ble_eq_true rfl) (jdv rfl)
