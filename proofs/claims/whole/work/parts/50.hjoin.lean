/-- whether a seam of no foes would join two pieces -/
def jpB (S : qS) (p q : Nat) : Bool := ((decide (q < sP S) && seB S p q) && !sE S (sF S p) (sF S q)) && !pcB S (one p) (sqB S) q
theorem jp_iff {S : qS} {p q : Nat} : jpB S p q = true ↔ ((q < sP S ∧ seB S p q = true) ∧ sE S (sF S p) (sF S q) = false) ∧ pcB S (one p) (sqB S) q = false := by
  unfold jpB
  rw [Bool.and_eq_true, Bool.and_eq_true, Bool.and_eq_true, decide_eq_true_iff, Bool.not_eq_true', Bool.not_eq_true']
theorem se_f {S : qS} {p q : Nat} (h : seB S p q = true) : sF S p < 4 ∧ sF S q < 4 := by
  unfold seB at h
  rw [Bool.and_eq_true, Bool.and_eq_true] at h
  exact ⟨sqB_iff.mp h.2.1, sqB_iff.mp h.2.2⟩
theorem pl_lt {S : qS} {q : Nat} (hP : sP S ≤ 16) (hq : q ≤ 32) (h : plB S (nI q) = true) : q < sP S := (nI_ltI (by omega) (by omega)).mp (plB_iff.mp h).2
set_option maxRecDepth 100000 in
set_option maxHeartbeats 400000 in
theorem h_joins {G : jG} {d : Nat} {x q t ai b pa ql qh : Nat} {sg : Int32} {ov : Value} {S T : qS} {tl th : Nat} (hT : wf T) {p r : Nat} (hp : p < 16) (hr : r ≤ 32) : Ct G yX2_joinsPieces cX2_joinsPieces 3 (some .boolean) (d + 5) 0 0 [.ref x, .int (nI p), .int (nI r)] (hX x q t ai b pa sg ov :: (wS G q ql qh (S) ++ wS G t tl th (T))) (jD (some (.int (bP (jpB T p r = true)))) (hX x q t ai b pa sg ov :: (wS G q ql qh (S) ++ wS G t tl th (T)))) := by
  refine ct_of (by decide) (Nat.le_of_ble_eq_true rfl) (own := RX2) (nm := "joinsPieces") rfl rfl (lv := [some (.ref x), some (.int (nI p)), some (.int (nI r))]) rfl ?_
  refine r_aload_n 0 dX2_joinsPieces_0 rfl ?_
  refine r_get 1 f_X2_16 dX2_joinsPieces_1 0 rfl rfl ?_
  refine r_iload_n 4 dX2_joinsPieces_4 rfl ?_
  refine r_callVD (ws2 := [_, _, _, _, _, _, _]) (wr := [_, _, _, _]) 5 s_X2_76 dX2_joinsPieces_5 (c_X1_isPlace (S := T)) rfl rfl 0 rfl rfl rfl [4, 5, 6] [0, 1, 2, 3] rfl rfl rfl rfl (by decide) jRm_ok (Nat.le_of_ble_eq_true rfl) ⟨(Nat.le_of_ble_eq_true rfl), (Nat.le_of_ble_eq_true rfl)⟩ [0, 1, 2, 3, 4, 5, 6] rfl rfl ?_
  refine r_if_eqB 8 63 dX2_joinsPieces_8 (by decide) (fun c_8 => ?_) (fun c_8 => ?_)
  · -- 8T
    have hw : ¬ jpB T p r = true := fun z => c_8 (plB_of hT (jp_iff.mp z).1.1.1)
    refine r_iconst (v := 0) 63 dX2_joinsPieces_63 (by decide) ?_
    exact r_iret 64 dX2_joinsPieces_64 rfl rfl (Nat.le_of_ble_eq_true rfl) (Nat.le_of_ble_eq_true rfl) (jd (by first | exact (bP_t hw).symm | exact (bP_f hw).symm))
  · -- 8F
    have hrP := pl_lt hT.p16 hr c_8
    have h16 := hT.p16
    have hr16 : r < 16 := by omega
    refine r_aload_n 11 dX2_joinsPieces_11 rfl ?_
    refine r_get 12 f_X2_16 dX2_joinsPieces_12 0 rfl rfl ?_
    refine r_iload_n 15 dX2_joinsPieces_15 rfl ?_
    refine r_iload_n 16 dX2_joinsPieces_16 rfl ?_
    refine r_callVD (ws2 := [_, _, _, _, _, _, _]) (wr := [_, _, _, _]) 17 s_X2_99 dX2_joinsPieces_17 (c_X1_isSeam hT hp hr16) rfl rfl 0 rfl rfl rfl [4, 5, 6] [0, 1, 2, 3] rfl rfl rfl rfl (by decide) jRm_ok (Nat.le_of_ble_eq_true rfl) ⟨(Nat.le_of_ble_eq_true rfl), (Nat.le_of_ble_eq_true rfl)⟩ [0, 1, 2, 3, 4, 5, 6] rfl rfl ?_
    refine r_if_eqB 20 63 dX2_joinsPieces_20 (by decide) (fun c_20 => ?_) (fun c_20 => ?_)
    · -- 20T
      have hw : ¬ jpB T p r = true := fun z => c_20 (jp_iff.mp z).1.1.2
      refine r_iconst (v := 0) 63 dX2_joinsPieces_63 (by decide) ?_
      exact r_iret 64 dX2_joinsPieces_64 rfl rfl (Nat.le_of_ble_eq_true rfl) (Nat.le_of_ble_eq_true rfl) (jd (by first | exact (bP_t hw).symm | exact (bP_f hw).symm))
    · -- 20F
      refine r_aload_n 23 dX2_joinsPieces_23 rfl ?_
      refine r_get 24 f_X2_16 dX2_joinsPieces_24 0 rfl rfl ?_
      refine r_iload_n 27 dX2_joinsPieces_27 rfl ?_
      refine r_iload_n 28 dX2_joinsPieces_28 rfl ?_
      refine r_callVD (ws2 := [_, _, _, _, _, _, _]) (wr := [_, _, _, _]) 29 s_X2_106 dX2_joinsPieces_29 (c_X1_isSeamOfFoes hp hr16 (se_f c_20).1 (se_f c_20).2) rfl rfl 0 rfl rfl rfl [4, 5, 6] [0, 1, 2, 3] rfl rfl rfl rfl (by decide) jRm_ok (Nat.le_of_ble_eq_true rfl) ⟨(Nat.le_of_ble_eq_true rfl), (Nat.le_of_ble_eq_true rfl)⟩ [0, 1, 2, 3, 4, 5, 6] rfl rfl ?_
      refine r_if_neB 32 63 dX2_joinsPieces_32 (by decide) (fun c_32 => ?_) (fun c_32 => ?_)
      · -- 32T
        have hw : ¬ jpB T p r = true := fun z => by rw [(jp_iff.mp z).1.2] at c_32; exact Bool.noConfusion c_32
        refine r_iconst (v := 0) 63 dX2_joinsPieces_63 (by decide) ?_
        exact r_iret 64 dX2_joinsPieces_64 rfl rfl (Nat.le_of_ble_eq_true rfl) (Nat.le_of_ble_eq_true rfl) (jd (by first | exact (bP_t hw).symm | exact (bP_f hw).symm))
      · -- 32F
        refine r_aload_n 35 dX2_joinsPieces_35 rfl ?_
        refine r_get 36 f_X2_16 dX2_joinsPieces_36 0 rfl rfl ?_
        refine r_iconst (v := 1) 39 dX2_joinsPieces_39 (by decide) ?_
        refine r_iload_n 40 dX2_joinsPieces_40 rfl ?_
        refine r_ishl 41 dX2_joinsPieces_41 ?_
        refine r_ti (y := mI (one p)) (mI_one hp) ?_
        refine r_aload_n 42 dX2_joinsPieces_42 rfl ?_
        refine r_get 43 f_X2_16 dX2_joinsPieces_43 0 rfl rfl ?_
        refine r_callVD (ws2 := [_, _, _, _, _, _, _]) (wr := [_, _, _, _]) 46 s_X2_67 dX2_joinsPieces_46 (q_squares (S := T)) rfl rfl 0 rfl rfl rfl [4, 5, 6] [0, 1, 2, 3] rfl rfl rfl rfl (by decide) jRm_ok (Nat.le_of_ble_eq_true rfl) ⟨(Nat.le_of_ble_eq_true rfl), (Nat.le_of_ble_eq_true rfl)⟩ [0, 1, 2, 3, 4, 5, 6] rfl rfl ?_
        refine r_callVD (ws2 := [_, _, _, _, _, _, _]) (wr := [_, _, _, _]) 49 s_X2_131 dX2_joinsPieces_49 (c_X1_pieceWith hT (X := one p) (A := sqB T)) rfl rfl 0 rfl rfl rfl [4, 5, 6] [0, 1, 2, 3] rfl rfl rfl rfl (by decide) jRm_ok (Nat.le_of_ble_eq_true rfl) ⟨(Nat.le_of_ble_eq_true rfl), (Nat.le_of_ble_eq_true rfl)⟩ [0, 1, 2, 3, 4, 5, 6] rfl rfl ?_
        refine r_iload_n 52 dX2_joinsPieces_52 rfl ?_
        refine r_callSD (ws2 := [_, _, _, _, _, _, _]) (wr := [_, _, _, _, _, _, _]) 53 s_X2_194 dX2_joinsPieces_53 (c_has (X := pcB T (one p) (sqB T)) hr16) rfl rfl [] [0, 1, 2, 3, 4, 5, 6] rfl rfl rfl rfl (by decide) jRm_ok (Nat.le_of_ble_eq_true rfl) ⟨(Nat.le_of_ble_eq_true rfl), (Nat.le_of_ble_eq_true rfl)⟩ [0, 1, 2, 3, 4, 5, 6] rfl rfl ?_
        refine r_if_neB 56 63 dX2_joinsPieces_56 (by decide) (fun c_56 => ?_) (fun c_56 => ?_)
        · -- 56T
          have hw : ¬ jpB T p r = true := fun z => by rw [(jp_iff.mp z).2] at c_56; exact Bool.noConfusion c_56
          refine r_iconst (v := 0) 63 dX2_joinsPieces_63 (by decide) ?_
          exact r_iret 64 dX2_joinsPieces_64 rfl rfl (Nat.le_of_ble_eq_true rfl) (Nat.le_of_ble_eq_true rfl) (jd (by first | exact (bP_t hw).symm | exact (bP_f hw).symm))
        · -- 56F
          have hw : jpB T p r = true := jp_iff.mpr ⟨⟨⟨hrP, c_20⟩, (Bool.not_eq_true _).mp c_32⟩, (Bool.not_eq_true _).mp c_56⟩
          refine r_iconst (v := 1) 59 dX2_joinsPieces_59 (by decide) ?_
          refine r_goto 60 64 dX2_joinsPieces_60 (by decide) ?_
          exact r_iret 64 dX2_joinsPieces_64 rfl rfl (Nat.le_of_ble_eq_true rfl) (Nat.le_of_ble_eq_true rfl) (jd (by first | exact (bP_t hw).symm | exact (bP_f hw).symm))
