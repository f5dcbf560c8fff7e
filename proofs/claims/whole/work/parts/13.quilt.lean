theorem arrV_congr {cI : ClassId} {N : Nat} {f f2 : Nat → Value} (h : ∀ j, j < N → f j = f2 j) : arrV cI N f = arrV cI N f2 := by
  unfold arrV
  have : (fun j : Fin N => f j.val) = (fun j : Fin N => f2 j.val) := funext fun j => h j.1 j.2
  rw [this]
section JQ
variable {G : jG} {own nm : String} {cc : ByteArray} {nL : Nat} {ret : Option FieldType} {R : Room} {X : State → (Nat → Prop) → Prop} {E : List Frame → Array Value → State → (Nat → Prop) → State → Prop} {cells slots : Nat} {lv : List (Option Value)} {st : List Value} {ws : va_W}
theorem r_if_eqB {c : Prop} [Decidable c] {off : Int} (pc tgt : Nat) (hdg : decode cc pc = .ok (.ifCond .eq off, 3)) (ht : (pc : Int) + off = (tgt : Int)) (kt : ¬ c → Rn G own nm cc nL ret R X E cells slots tgt lv st ws) (kf : c → Rn G own nm cc nL ret R X E cells slots (pc + 3) lv st ws) : Rn G own nm cc nL ret R X E cells slots pc lv (.int (bP c) :: st) ws := r_if_eq pc tgt hdg ht (fun q => kt (bP_0.mp q)) (fun q => kf (Decidable.of_not_not (fun z => q (bP_0.mpr z))))
theorem r_if_neB {c : Prop} [Decidable c] {off : Int} (pc tgt : Nat) (hdg : decode cc pc = .ok (.ifCond .ne off, 3)) (ht : (pc : Int) + off = (tgt : Int)) (kt : c → Rn G own nm cc nL ret R X E cells slots tgt lv st ws) (kf : ¬ c → Rn G own nm cc nL ret R X E cells slots (pc + 3) lv st ws) : Rn G own nm cc nL ret R X E cells slots pc lv (.int (bP c) :: st) ws := r_if_ne pc tgt hdg ht (fun q => kt (Decidable.of_not_not (fun z => q (bP_0.mpr z)))) (fun q => kf (bP_0.mp q))
theorem r_arrI {pc a n : Nat} {cA : ClassId} {f f2 : Nat → Int32} {ws2 : va_W} (q0 : Nat) (he : ws[q0]? = some (a, .inl (cA, n, .inl f))) (hf : ∀ j, j < n → f j = f2 j) (hw : ws.set q0 (a, .inl (cA, n, .inl f2)) = ws2) (h : Rn G own nm cc nL ret R X E cells slots pc lv st ws2) : Rn G own nm cc nL ret R X E cells slots pc lv st ws := by
  subst hw
  intro p e s m args below meth c A H locs ls Cx hP hD hS hl
  refine h p e s m args below meth c A H locs ls Cx (fun k x hk => ?_) (hD.set he) hS hl
  by_cases hkq : k = q0
  · subst hkq
    have hlt := (List.getElem?_eq_some_iff.mp he).1
    rw [List.getElem?_set_self hlt] at hk
    cases hk
    have := hP k _ he
    show H[a]? = some (vp_cell _ _)
    rw [show vp_cell cA (n, .inl f2) = vp_cell cA (n, .inl f) by
      rw [vp_cell_i, vp_cell_i]
      exact arrV_congr (fun j hj => by rw [hf j hj])]
    exact this
  · rw [List.getElem?_set_ne (fun z => hkq z.symm)] at hk
    exact hP k x hk
end JQ
theorem c_has {G : jG} {d : Nat} {X : Nat → Bool} {p : Nat} (hp : p < 16) : Ct G yX2_has cX2_has 2 (some .boolean) (d + 1) 0 0 [.int (mI X), .int (nI p)] [] (jD (some (.int (bP (X p = true)))) []) := by
  have h : bP (X p = true) = bP (¬ (mI X >>> (nI p &&& 31)) &&& 1 = 0) := by
    unfold bP
    have := mI_bit0 (X := X) hp
    cases hx : X p
    · rw [hx] at this; simp [this.mpr rfl]
    · rw [hx] at this; simp at this; simp [this]
  rw [h]
  exact c_X2_has
theorem q_places {G : jG} {d q ql qh : Nat} {S : qS} : Ct G yX1_places cX1_places 1 (some .int) (d + 1) 0 0 [.ref q] (wS G q ql qh S) (jD (some (.int (nI (sP S)))) (wS G q ql qh S)) := by
  unfold sP
  rw [← pk_mul]
  exact c_X1_places
theorem q_squares {G : jG} {d q ql qh : Nat} {S : qS} : Ct G yX1_squares cX1_squares 3 (some .int) (d + 1) 0 0 [.ref q] (wS G q ql qh S) (jD (some (.int (mI (sqB S)))) (wS G q ql qh S)) := by
  rw [← sq_S]
  exact c_X1_squares
theorem q_joinedTo {G : jG} {d q ql qh : Nat} {S : qS} (hS : wf S) {X : Nat → Bool} : Ct G yX1_joinedTo cX1_joinedTo 4 (some .int) (d + 1) 0 0 [.ref q, .int (mI X)] (wS G q ql qh S) (jD (some (.int (mI (nbs S X)))) (wS G q ql qh S)) := by
  rw [← joI_S hS]
  exact c_X1_joinedTo
/-- a place's number is in the quilt -/
def inPl (S : qS) (x : Int32) : Prop := ¬ x < 0 ∧ x < nI (sP S)
def plB (S : qS) (x : Int32) : Bool := !decide (x < 0) && decide (x < nI (sP S))
theorem plB_iff {S : qS} {x : Int32} : plB S x = true ↔ ¬ x < 0 ∧ x < nI (sP S) := by
  unfold plB
  rw [Bool.and_eq_true, Bool.not_eq_true', decide_eq_false_iff_not, decide_eq_true_iff]
theorem plB_nI {S : qS} (hS : wf S) {x : Int32} (h : plB S x = true) : ∃ p : Nat, p < sP S ∧ x = nI p := by
  obtain ⟨h1, h2⟩ := plB_iff.mp h
  obtain ⟨j, hj, rfl⟩ := nI_of h1
  have := hS.p16
  exact ⟨j, (nI_ltI hj (by omega)).mp h2, rfl⟩
theorem plB_of {S : qS} (hS : wf S) {p : Nat} (hp : p < sP S) : plB S (nI p) = true := by
  have := hS.p16
  exact plB_iff.mpr ⟨nI_pos (by omega), nI_lt hp (by omega)⟩
set_option maxRecDepth 100000 in
set_option maxHeartbeats 400000 in
theorem c_X1_isPlace {G : jG} {d : Nat} {q ql qh : Nat} {S : qS} {x : Int32} : Ct G yX1_isPlace cX1_isPlace 2 (some .boolean) (d + 2) 0 0 [.ref q, .int x] (wS G q ql qh S) (jD (some (.int (bP (plB S x = true)))) (wS G q ql qh S)) := by
  refine ct_of (by decide) (Nat.le_of_ble_eq_true rfl) (own := RX1) (nm := "isPlace") rfl rfl (lv := [some (.ref q), some (.int x)]) rfl ?_
  refine r_iload_n 0 dX1_isPlace_0 rfl ?_
  refine r_if_lt 1 16 dX1_isPlace_1 (by decide) (fun c_1 => ?_) (fun c_1 => ?_)
  · -- 1T
    refine r_iconst (v := 0) 16 dX1_isPlace_16 (by decide) ?_
    exact r_iret 17 dX1_isPlace_17 rfl rfl (Nat.le_of_ble_eq_true rfl) (Nat.le_of_ble_eq_true rfl) (jd (by first | exact (bP_t (plB_iff.mpr ⟨by assumption, by simp only [Int32.lt_iff_toInt_lt, Int32.le_iff_toInt_le] at *; omega⟩)).symm | exact (bP_f (fun z => by have := plB_iff.mp z; simp only [Int32.lt_iff_toInt_lt, Int32.le_iff_toInt_le] at *; omega)).symm))
  · -- 1F
    refine r_iload_n 4 dX1_isPlace_4 rfl ?_
    refine r_aload_n 5 dX1_isPlace_5 rfl ?_
    refine r_callVD (ws2 := [_, _, _]) (wr := []) 6 s_X1_73 dX1_isPlace_6 (q_places) rfl rfl 0 rfl rfl rfl [0, 1, 2] [] rfl rfl rfl rfl (by decide) jRm_ok (Nat.le_of_ble_eq_true rfl) ⟨(Nat.le_of_ble_eq_true rfl), (Nat.le_of_ble_eq_true rfl)⟩ [0, 1, 2] rfl rfl ?_
    refine r_icmp_ge 9 16 dX1_isPlace_9 (by decide) (fun c_9 => ?_) (fun c_9 => ?_)
    · -- 9T
      refine r_iconst (v := 0) 16 dX1_isPlace_16 (by decide) ?_
      exact r_iret 17 dX1_isPlace_17 rfl rfl (Nat.le_of_ble_eq_true rfl) (Nat.le_of_ble_eq_true rfl) (jd (by first | exact (bP_t (plB_iff.mpr ⟨by assumption, by simp only [Int32.lt_iff_toInt_lt, Int32.le_iff_toInt_le] at *; omega⟩)).symm | exact (bP_f (fun z => by have := plB_iff.mp z; simp only [Int32.lt_iff_toInt_lt, Int32.le_iff_toInt_le] at *; omega)).symm))
    · -- 9F
      refine r_iconst (v := 1) 12 dX1_isPlace_12 (by decide) ?_
      refine r_goto 13 17 dX1_isPlace_13 (by decide) ?_
      exact r_iret 17 dX1_isPlace_17 rfl rfl (Nat.le_of_ble_eq_true rfl) (Nat.le_of_ble_eq_true rfl) (jd (by first | exact (bP_t (plB_iff.mpr ⟨by assumption, by simp only [Int32.lt_iff_toInt_lt, Int32.le_iff_toInt_le] at *; omega⟩)).symm | exact (bP_f (fun z => by have := plB_iff.mp z; simp only [Int32.lt_iff_toInt_lt, Int32.le_iff_toInt_le] at *; omega)).symm))
theorem sqB_iff {S : qS} {p : Nat} : sqB S p = true ↔ sF S p < 4 := decide_eq_true_iff
set_option maxRecDepth 100000 in
set_option maxHeartbeats 400000 in
theorem c_X1_hasSquare {G : jG} {d : Nat} {q ql qh : Nat} {S : qS} {p : Nat} (hp : p < 16) : Ct G yX1_hasSquare cX1_hasSquare 2 (some .boolean) (d + 2) 0 0 [.ref q, .int (nI p)] (wS G q ql qh S) (jD (some (.int (bP (sqB S p = true)))) (wS G q ql qh S)) := by
  refine ct_of (by decide) (Nat.le_of_ble_eq_true rfl) (own := RX1) (nm := "hasSquare") rfl rfl (lv := [some (.ref q), some (.int (nI p))]) rfl ?_
  refine r_aload_n 0 dX1_hasSquare_0 rfl ?_
  refine r_callVD (ws2 := [_, _, _]) (wr := []) 1 s_X1_77 dX1_hasSquare_1 (q_squares) rfl rfl 0 rfl rfl rfl [0, 1, 2] [] rfl rfl rfl rfl (by decide) jRm_ok (Nat.le_of_ble_eq_true rfl) ⟨(Nat.le_of_ble_eq_true rfl), (Nat.le_of_ble_eq_true rfl)⟩ [0, 1, 2] rfl rfl ?_
  refine r_iload_n 4 dX1_hasSquare_4 rfl ?_
  refine r_callND (ws2 := [_, _, _]) (wr := [_, _, _]) 5 s_X1_69 dX1_hasSquare_5 (c_has hp) rfl rfl [] [0, 1, 2] rfl rfl rfl rfl (by decide) jRm_ok (Nat.le_of_ble_eq_true rfl) ⟨(Nat.le_of_ble_eq_true rfl), (Nat.le_of_ble_eq_true rfl)⟩ [0, 1, 2] rfl rfl ?_
  exact r_iret 8 dX1_hasSquare_8 rfl bP_n (Nat.le_of_ble_eq_true rfl) (Nat.le_of_ble_eq_true rfl) (jd rfl)
theorem lyB_iff {S : qS} {f p : Nat} : lyB S f p = true ↔ sF S p = f := decide_eq_true_iff
theorem fI_lt {k : Nat} (h : k < 4) : fI k = nI k := if_pos h
theorem fI_4 {k : Nat} (h : ¬ k < 4) : fI k = -6 := if_neg h
set_option maxRecDepth 100000 in
set_option maxHeartbeats 400000 in
theorem c_X1_familyAt {G : jG} {d : Nat} {q ql qh : Nat} {S : qS} {p : Nat} (hp : p < 16) : Ct G yX1_familyAt cX1_familyAt 3 (some .int) (d + 2) 0 0 [.ref q, .int (nI p)] (wS G q ql qh S) (jD (some (.int (fI (sF S p)))) (wS G q ql qh S)) := by
  refine ct_of (by decide) (Nat.le_of_ble_eq_true rfl) (own := RX1) (nm := "familyAt") rfl rfl (lv := [some (.ref q), some (.int (nI p)), none]) rfl ?_
  refine r_iconst (v := 0) 0 dX1_familyAt_0 (by decide) ?_
  refine r_istore_n (lv2 := [_, _, _]) 1 dX1_familyAt_1 (by decide) rfl rfl ?_
  refine r_iload_n 2 dX1_familyAt_2 rfl ?_
  refine r_iconst (v := 4) 3 dX1_familyAt_3 (by decide) ?_
  refine r_icmp_geF 4 28 dX1_familyAt_4 (by decide) (by decide) ?_
  refine r_aload_n 7 dX1_familyAt_7 rfl ?_
  refine r_get 8 f_X1_39 dX1_familyAt_8 0 rfl rfl ?_
  refine r_iload_n 11 dX1_familyAt_11 rfl ?_
  refine r_iaload 12 dX1_familyAt_12 1 rfl (vp_lit (by decide)) (show Int32.toNatClampNeg 0 = 0 by decide) ?_
  refine r_iload_n 13 dX1_familyAt_13 rfl ?_
  refine r_callND (ws2 := [_, _, _]) (wr := [_, _, _]) 14 s_X1_69 dX1_familyAt_14 (c_has hp) rfl rfl [] [0, 1, 2] rfl rfl rfl rfl (by decide) jRm_ok (Nat.le_of_ble_eq_true rfl) ⟨(Nat.le_of_ble_eq_true rfl), (Nat.le_of_ble_eq_true rfl)⟩ [0, 1, 2] rfl rfl ?_
  refine r_if_eqB 17 22 dX1_familyAt_17 (by decide) (fun c_17 => ?_) (fun c_17 => ?_)
  · -- 17T
    refine r_iinc (v := 1) (lv2 := [_, _, _]) 22 dX1_familyAt_22 rfl (by decide) (by decide) rfl rfl ?_
    refine r_goto 25 2 dX1_familyAt_25 (by decide) ?_
    refine r_iload_n 2 dX1_familyAt_2 rfl ?_
    refine r_iconst (v := 4) 3 dX1_familyAt_3 (by decide) ?_
    refine r_icmp_geF 4 28 dX1_familyAt_4 (by decide) (by decide) ?_
    refine r_aload_n 7 dX1_familyAt_7 rfl ?_
    refine r_get 8 f_X1_39 dX1_familyAt_8 0 rfl rfl ?_
    refine r_iload_n 11 dX1_familyAt_11 rfl ?_
    refine r_iaload 12 dX1_familyAt_12 1 rfl (vp_lit (by decide)) (show Int32.toNatClampNeg 1 = 1 by decide) ?_
    refine r_iload_n 13 dX1_familyAt_13 rfl ?_
    refine r_callND (ws2 := [_, _, _]) (wr := [_, _, _]) 14 s_X1_69 dX1_familyAt_14 (c_has hp) rfl rfl [] [0, 1, 2] rfl rfl rfl rfl (by decide) jRm_ok (Nat.le_of_ble_eq_true rfl) ⟨(Nat.le_of_ble_eq_true rfl), (Nat.le_of_ble_eq_true rfl)⟩ [0, 1, 2] rfl rfl ?_
    refine r_if_eqB 17 22 dX1_familyAt_17 (by decide) (fun c_17 => ?_) (fun c_17 => ?_)
    · -- 17T
      refine r_iinc (v := 2) (lv2 := [_, _, _]) 22 dX1_familyAt_22 rfl (by decide) (by decide) rfl rfl ?_
      refine r_goto 25 2 dX1_familyAt_25 (by decide) ?_
      refine r_iload_n 2 dX1_familyAt_2 rfl ?_
      refine r_iconst (v := 4) 3 dX1_familyAt_3 (by decide) ?_
      refine r_icmp_geF 4 28 dX1_familyAt_4 (by decide) (by decide) ?_
      refine r_aload_n 7 dX1_familyAt_7 rfl ?_
      refine r_get 8 f_X1_39 dX1_familyAt_8 0 rfl rfl ?_
      refine r_iload_n 11 dX1_familyAt_11 rfl ?_
      refine r_iaload 12 dX1_familyAt_12 1 rfl (vp_lit (by decide)) (show Int32.toNatClampNeg 2 = 2 by decide) ?_
      refine r_iload_n 13 dX1_familyAt_13 rfl ?_
      refine r_callND (ws2 := [_, _, _]) (wr := [_, _, _]) 14 s_X1_69 dX1_familyAt_14 (c_has hp) rfl rfl [] [0, 1, 2] rfl rfl rfl rfl (by decide) jRm_ok (Nat.le_of_ble_eq_true rfl) ⟨(Nat.le_of_ble_eq_true rfl), (Nat.le_of_ble_eq_true rfl)⟩ [0, 1, 2] rfl rfl ?_
      refine r_if_eqB 17 22 dX1_familyAt_17 (by decide) (fun c_17 => ?_) (fun c_17 => ?_)
      · -- 17T
        refine r_iinc (v := 3) (lv2 := [_, _, _]) 22 dX1_familyAt_22 rfl (by decide) (by decide) rfl rfl ?_
        refine r_goto 25 2 dX1_familyAt_25 (by decide) ?_
        refine r_iload_n 2 dX1_familyAt_2 rfl ?_
        refine r_iconst (v := 4) 3 dX1_familyAt_3 (by decide) ?_
        refine r_icmp_geF 4 28 dX1_familyAt_4 (by decide) (by decide) ?_
        refine r_aload_n 7 dX1_familyAt_7 rfl ?_
        refine r_get 8 f_X1_39 dX1_familyAt_8 0 rfl rfl ?_
        refine r_iload_n 11 dX1_familyAt_11 rfl ?_
        refine r_iaload 12 dX1_familyAt_12 1 rfl (vp_lit (by decide)) (show Int32.toNatClampNeg 3 = 3 by decide) ?_
        refine r_iload_n 13 dX1_familyAt_13 rfl ?_
        refine r_callND (ws2 := [_, _, _]) (wr := [_, _, _]) 14 s_X1_69 dX1_familyAt_14 (c_has hp) rfl rfl [] [0, 1, 2] rfl rfl rfl rfl (by decide) jRm_ok (Nat.le_of_ble_eq_true rfl) ⟨(Nat.le_of_ble_eq_true rfl), (Nat.le_of_ble_eq_true rfl)⟩ [0, 1, 2] rfl rfl ?_
        refine r_if_eqB 17 22 dX1_familyAt_17 (by decide) (fun c_17 => ?_) (fun c_17 => ?_)
        · -- 17T
          refine r_iinc (v := 4) (lv2 := [_, _, _]) 22 dX1_familyAt_22 rfl (by decide) (by decide) rfl rfl ?_
          refine r_goto 25 2 dX1_familyAt_25 (by decide) ?_
          refine r_iload_n 2 dX1_familyAt_2 rfl ?_
          refine r_iconst (v := 4) 3 dX1_familyAt_3 (by decide) ?_
          refine r_icmp_geT 4 28 dX1_familyAt_4 (by decide) (by decide) ?_
          refine r_bipush (v := -6) 28 dX1_familyAt_28 (by decide) ?_
          exact r_iret 30 dX1_familyAt_30 rfl rfl (Nat.le_of_ble_eq_true rfl) (Nat.le_of_ble_eq_true rfl) (jd (by simp only [lyB_iff] at *; first | (rw [fI_4 (by omega)]) | (rw [fI_lt (by omega)]; simp [*]; rfl) | (rw [fI_lt (by omega)]; simp_all; rfl)))
        · -- 17F
          refine r_iload_n 20 dX1_familyAt_20 rfl ?_
          exact r_iret 21 dX1_familyAt_21 rfl rfl (Nat.le_of_ble_eq_true rfl) (Nat.le_of_ble_eq_true rfl) (jd (by simp only [lyB_iff] at *; first | (rw [fI_4 (by omega)]) | (rw [fI_lt (by omega)]; simp [*]; rfl) | (rw [fI_lt (by omega)]; simp_all; rfl)))
      · -- 17F
        refine r_iload_n 20 dX1_familyAt_20 rfl ?_
        exact r_iret 21 dX1_familyAt_21 rfl rfl (Nat.le_of_ble_eq_true rfl) (Nat.le_of_ble_eq_true rfl) (jd (by simp only [lyB_iff] at *; first | (rw [fI_4 (by omega)]) | (rw [fI_lt (by omega)]; simp [*]; rfl) | (rw [fI_lt (by omega)]; simp_all; rfl)))
    · -- 17F
      refine r_iload_n 20 dX1_familyAt_20 rfl ?_
      exact r_iret 21 dX1_familyAt_21 rfl rfl (Nat.le_of_ble_eq_true rfl) (Nat.le_of_ble_eq_true rfl) (jd (by simp only [lyB_iff] at *; first | (rw [fI_4 (by omega)]) | (rw [fI_lt (by omega)]; simp [*]; rfl) | (rw [fI_lt (by omega)]; simp_all; rfl)))
  · -- 17F
    refine r_iload_n 20 dX1_familyAt_20 rfl ?_
    exact r_iret 21 dX1_familyAt_21 rfl rfl (Nat.le_of_ble_eq_true rfl) (Nat.le_of_ble_eq_true rfl) (jd (by simp only [lyB_iff] at *; first | (rw [fI_4 (by omega)]) | (rw [fI_lt (by omega)]; simp [*]; rfl) | (rw [fI_lt (by omega)]; simp_all; rfl)))
