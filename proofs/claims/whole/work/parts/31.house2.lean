set_option maxRecDepth 100000 in
set_option maxHeartbeats 400000 in
theorem h_couldN0 {G : jG} {d : Nat} {x q t ai b pa ql qh : Nat} {sg : Int32} {ov : Value} {S : qS} (hS : wf S) (h : ¬ cpN S 16 (sqB S) = 1) : Ct G yX2_could cX2_could 2 (some .int) (d + 5) 0 0 [.ref x, .int 0] (hX x q t ai b pa sg ov :: (wS G q ql qh (S))) (jD (some (.int (0))) (hX x q t ai b pa sg ov :: (wS G q ql qh (S)))) := by
  refine ct_of (by decide) (Nat.le_of_ble_eq_true rfl) (own := RX2) (nm := "could") rfl rfl (lv := [some (.ref x), some (.int 0)]) rfl ?_
  refine r_iload_n 0 dX2_could_0 rfl ?_
  refine r_iconst (v := 0) 1 dX2_could_1 (by decide) ?_
  refine r_iconst (v := 1) 2 dX2_could_2 (by decide) ?_
  refine r_callSD (ws2 := [_, _, _, _]) (wr := [_, _, _, _]) 3 s_X2_46 dX2_could_3 (c_isW (by decide)) rfl rfl [] [0, 1, 2, 3] rfl rfl rfl rfl (by decide) jRm_ok (Nat.le_of_ble_eq_true rfl) ⟨(Nat.le_of_ble_eq_true rfl), (Nat.le_of_ble_eq_true rfl)⟩ [0, 1, 2, 3] rfl rfl ?_
  refine r_if_neT 6 12 dX2_could_6 (by decide) (by decide) ?_
  refine r_aload_n 12 dX2_could_12 rfl ?_
  refine r_get 13 f_X2_10 dX2_could_13 0 rfl rfl ?_
  refine r_aload_n 16 dX2_could_16 rfl ?_
  refine r_get 17 f_X2_10 dX2_could_17 0 rfl rfl ?_
  refine r_callVD (ws2 := [_, _, _, _]) (wr := [_]) 20 s_X2_67 dX2_could_20 (q_squares) rfl rfl 0 rfl rfl rfl [1, 2, 3] [0] rfl rfl rfl rfl (by decide) jRm_ok (Nat.le_of_ble_eq_true rfl) ⟨(Nat.le_of_ble_eq_true rfl), (Nat.le_of_ble_eq_true rfl)⟩ [0, 1, 2, 3] rfl rfl ?_
  refine r_callVD (ws2 := [_, _, _, _]) (wr := [_]) 23 s_X2_128 dX2_could_23 (c_X1_countPieces hS) rfl rfl 0 rfl rfl rfl [1, 2, 3] [0] rfl rfl rfl rfl (by decide) jRm_ok (Nat.le_of_ble_eq_true rfl) ⟨(Nat.le_of_ble_eq_true rfl), (Nat.le_of_ble_eq_true rfl)⟩ [0, 1, 2, 3] rfl rfl ?_
  refine r_iconst (v := 1) 26 dX2_could_26 (by decide) ?_
  refine r_icmp_eqF 27 32 dX2_could_27 (by decide) (fun z => h ((nI_eq (Nat.lt_of_le_of_lt (cpN_le S _ _) (by decide)) (by decide)).mp z)) ?_
  refine r_iconst (v := 0) 30 dX2_could_30 (by decide) ?_
  exact r_iret 31 dX2_could_31 rfl rfl (Nat.le_of_ble_eq_true rfl) (Nat.le_of_ble_eq_true rfl) (jd rfl)
set_option maxRecDepth 100000 in
set_option maxHeartbeats 400000 in
theorem h_could0 {G : jG} {d : Nat} {x q t ai b pa ql qh : Nat} {sg : Int32} {ov : Value} {S : qS} (hS : wf S) (h : cpN S 16 (sqB S) = 1) : Ct G yX2_could cX2_could 2 (some .int) (d + 5) 0 0 [.ref x, .int 0] (hX x q t ai b pa sg ov :: (wS G q ql qh (S))) (jD (some (.int (mI (sqB S)))) (hX x q t ai b pa sg ov :: (wS G q ql qh (S)))) := by
  refine ct_of (by decide) (Nat.le_of_ble_eq_true rfl) (own := RX2) (nm := "could") rfl rfl (lv := [some (.ref x), some (.int 0)]) rfl ?_
  refine r_iload_n 0 dX2_could_0 rfl ?_
  refine r_iconst (v := 0) 1 dX2_could_1 (by decide) ?_
  refine r_iconst (v := 1) 2 dX2_could_2 (by decide) ?_
  refine r_callSD (ws2 := [_, _, _, _]) (wr := [_, _, _, _]) 3 s_X2_46 dX2_could_3 (c_isW (by decide)) rfl rfl [] [0, 1, 2, 3] rfl rfl rfl rfl (by decide) jRm_ok (Nat.le_of_ble_eq_true rfl) ⟨(Nat.le_of_ble_eq_true rfl), (Nat.le_of_ble_eq_true rfl)⟩ [0, 1, 2, 3] rfl rfl ?_
  refine r_if_neT 6 12 dX2_could_6 (by decide) (by decide) ?_
  refine r_aload_n 12 dX2_could_12 rfl ?_
  refine r_get 13 f_X2_10 dX2_could_13 0 rfl rfl ?_
  refine r_aload_n 16 dX2_could_16 rfl ?_
  refine r_get 17 f_X2_10 dX2_could_17 0 rfl rfl ?_
  refine r_callVD (ws2 := [_, _, _, _]) (wr := [_]) 20 s_X2_67 dX2_could_20 (q_squares) rfl rfl 0 rfl rfl rfl [1, 2, 3] [0] rfl rfl rfl rfl (by decide) jRm_ok (Nat.le_of_ble_eq_true rfl) ⟨(Nat.le_of_ble_eq_true rfl), (Nat.le_of_ble_eq_true rfl)⟩ [0, 1, 2, 3] rfl rfl ?_
  refine r_callVD (ws2 := [_, _, _, _]) (wr := [_]) 23 s_X2_128 dX2_could_23 (c_X1_countPieces hS) rfl rfl 0 rfl rfl rfl [1, 2, 3] [0] rfl rfl rfl rfl (by decide) jRm_ok (Nat.le_of_ble_eq_true rfl) ⟨(Nat.le_of_ble_eq_true rfl), (Nat.le_of_ble_eq_true rfl)⟩ [0, 1, 2, 3] rfl rfl ?_
  refine r_iconst (v := 1) 26 dX2_could_26 (by decide) ?_
  refine r_icmp_eqT 27 32 dX2_could_27 (by decide) (by rw [h]; rfl) ?_
  refine r_iload_n 32 dX2_could_32 rfl ?_
  refine r_if_neF 33 46 dX2_could_33 (by decide) (by decide) ?_
  refine r_aload_n 36 dX2_could_36 rfl ?_
  refine r_get 37 f_X2_10 dX2_could_37 0 rfl rfl ?_
  refine r_callVD (ws2 := [_, _, _, _]) (wr := [_]) 40 s_X2_67 dX2_could_40 (q_squares) rfl rfl 0 rfl rfl rfl [1, 2, 3] [0] rfl rfl rfl rfl (by decide) jRm_ok (Nat.le_of_ble_eq_true rfl) ⟨(Nat.le_of_ble_eq_true rfl), (Nat.le_of_ble_eq_true rfl)⟩ [0, 1, 2, 3] rfl rfl ?_
  refine r_goto 43 63 dX2_could_43 (by decide) ?_
  exact r_iret 63 dX2_could_63 rfl rfl (Nat.le_of_ble_eq_true rfl) (Nat.le_of_ble_eq_true rfl) (jd rfl)
set_option maxRecDepth 100000 in
set_option maxHeartbeats 400000 in
theorem h_couldN1 {G : jG} {d : Nat} {x q t ai b pa ql qh : Nat} {sg : Int32} {ov : Value} {S : qS} (hS : wf S) (h : ¬ cpN S 16 (sqB S) = 1) : Ct G yX2_could cX2_could 2 (some .int) (d + 5) 0 0 [.ref x, .int 1] (hX x q t ai b pa sg ov :: (wS G q ql qh (S))) (jD (some (.int (0))) (hX x q t ai b pa sg ov :: (wS G q ql qh (S)))) := by
  refine ct_of (by decide) (Nat.le_of_ble_eq_true rfl) (own := RX2) (nm := "could") rfl rfl (lv := [some (.ref x), some (.int 1)]) rfl ?_
  refine r_iload_n 0 dX2_could_0 rfl ?_
  refine r_iconst (v := 0) 1 dX2_could_1 (by decide) ?_
  refine r_iconst (v := 1) 2 dX2_could_2 (by decide) ?_
  refine r_callSD (ws2 := [_, _, _, _]) (wr := [_, _, _, _]) 3 s_X2_46 dX2_could_3 (c_isW (by decide)) rfl rfl [] [0, 1, 2, 3] rfl rfl rfl rfl (by decide) jRm_ok (Nat.le_of_ble_eq_true rfl) ⟨(Nat.le_of_ble_eq_true rfl), (Nat.le_of_ble_eq_true rfl)⟩ [0, 1, 2, 3] rfl rfl ?_
  refine r_if_neT 6 12 dX2_could_6 (by decide) (by decide) ?_
  refine r_aload_n 12 dX2_could_12 rfl ?_
  refine r_get 13 f_X2_10 dX2_could_13 0 rfl rfl ?_
  refine r_aload_n 16 dX2_could_16 rfl ?_
  refine r_get 17 f_X2_10 dX2_could_17 0 rfl rfl ?_
  refine r_callVD (ws2 := [_, _, _, _]) (wr := [_]) 20 s_X2_67 dX2_could_20 (q_squares) rfl rfl 0 rfl rfl rfl [1, 2, 3] [0] rfl rfl rfl rfl (by decide) jRm_ok (Nat.le_of_ble_eq_true rfl) ⟨(Nat.le_of_ble_eq_true rfl), (Nat.le_of_ble_eq_true rfl)⟩ [0, 1, 2, 3] rfl rfl ?_
  refine r_callVD (ws2 := [_, _, _, _]) (wr := [_]) 23 s_X2_128 dX2_could_23 (c_X1_countPieces hS) rfl rfl 0 rfl rfl rfl [1, 2, 3] [0] rfl rfl rfl rfl (by decide) jRm_ok (Nat.le_of_ble_eq_true rfl) ⟨(Nat.le_of_ble_eq_true rfl), (Nat.le_of_ble_eq_true rfl)⟩ [0, 1, 2, 3] rfl rfl ?_
  refine r_iconst (v := 1) 26 dX2_could_26 (by decide) ?_
  refine r_icmp_eqF 27 32 dX2_could_27 (by decide) (fun z => h ((nI_eq (Nat.lt_of_le_of_lt (cpN_le S _ _) (by decide)) (by decide)).mp z)) ?_
  refine r_iconst (v := 0) 30 dX2_could_30 (by decide) ?_
  exact r_iret 31 dX2_could_31 rfl rfl (Nat.le_of_ble_eq_true rfl) (Nat.le_of_ble_eq_true rfl) (jd rfl)
set_option maxRecDepth 100000 in
set_option maxHeartbeats 400000 in
theorem h_could1 {G : jG} {d : Nat} {x q t ai b pa ql qh : Nat} {sg : Int32} {ov : Value} {S : qS} (hS : wf S) (h : cpN S 16 (sqB S) = 1) : Ct G yX2_could cX2_could 2 (some .int) (d + 5) 0 0 [.ref x, .int 1] (hX x q t ai b pa sg ov :: (wS G q ql qh (S))) (jD (some (.int (mI (fun i => sqB S i && !tkB (sqB S) (paB S) i)))) (hX x q t ai b pa sg ov :: (wS G q ql qh (S)))) := by
  refine ct_of (by decide) (Nat.le_of_ble_eq_true rfl) (own := RX2) (nm := "could") rfl rfl (lv := [some (.ref x), some (.int 1)]) rfl ?_
  refine r_iload_n 0 dX2_could_0 rfl ?_
  refine r_iconst (v := 0) 1 dX2_could_1 (by decide) ?_
  refine r_iconst (v := 1) 2 dX2_could_2 (by decide) ?_
  refine r_callSD (ws2 := [_, _, _, _]) (wr := [_, _, _, _]) 3 s_X2_46 dX2_could_3 (c_isW (by decide)) rfl rfl [] [0, 1, 2, 3] rfl rfl rfl rfl (by decide) jRm_ok (Nat.le_of_ble_eq_true rfl) ⟨(Nat.le_of_ble_eq_true rfl), (Nat.le_of_ble_eq_true rfl)⟩ [0, 1, 2, 3] rfl rfl ?_
  refine r_if_neT 6 12 dX2_could_6 (by decide) (by decide) ?_
  refine r_aload_n 12 dX2_could_12 rfl ?_
  refine r_get 13 f_X2_10 dX2_could_13 0 rfl rfl ?_
  refine r_aload_n 16 dX2_could_16 rfl ?_
  refine r_get 17 f_X2_10 dX2_could_17 0 rfl rfl ?_
  refine r_callVD (ws2 := [_, _, _, _]) (wr := [_]) 20 s_X2_67 dX2_could_20 (q_squares) rfl rfl 0 rfl rfl rfl [1, 2, 3] [0] rfl rfl rfl rfl (by decide) jRm_ok (Nat.le_of_ble_eq_true rfl) ⟨(Nat.le_of_ble_eq_true rfl), (Nat.le_of_ble_eq_true rfl)⟩ [0, 1, 2, 3] rfl rfl ?_
  refine r_callVD (ws2 := [_, _, _, _]) (wr := [_]) 23 s_X2_128 dX2_could_23 (c_X1_countPieces hS) rfl rfl 0 rfl rfl rfl [1, 2, 3] [0] rfl rfl rfl rfl (by decide) jRm_ok (Nat.le_of_ble_eq_true rfl) ⟨(Nat.le_of_ble_eq_true rfl), (Nat.le_of_ble_eq_true rfl)⟩ [0, 1, 2, 3] rfl rfl ?_
  refine r_iconst (v := 1) 26 dX2_could_26 (by decide) ?_
  refine r_icmp_eqT 27 32 dX2_could_27 (by decide) (by rw [h]; rfl) ?_
  refine r_iload_n 32 dX2_could_32 rfl ?_
  refine r_if_neT 33 46 dX2_could_33 (by decide) (by decide) ?_
  refine r_aload_n 46 dX2_could_46 rfl ?_
  refine r_get 47 f_X2_10 dX2_could_47 0 rfl rfl ?_
  refine r_callVD (ws2 := [_, _, _, _]) (wr := [_]) 50 s_X2_67 dX2_could_50 (q_squares) rfl rfl 0 rfl rfl rfl [1, 2, 3] [0] rfl rfl rfl rfl (by decide) jRm_ok (Nat.le_of_ble_eq_true rfl) ⟨(Nat.le_of_ble_eq_true rfl), (Nat.le_of_ble_eq_true rfl)⟩ [0, 1, 2, 3] rfl rfl ?_
  refine r_aload_n 53 dX2_could_53 rfl ?_
  refine r_get 54 f_X2_10 dX2_could_54 0 rfl rfl ?_
  refine r_callVD (ws2 := [_, _, _, _]) (wr := [_]) 57 s_X2_140 dX2_could_57 (c_X1_partingSquares hS) rfl rfl 0 rfl rfl rfl [1, 2, 3] [0] rfl rfl rfl rfl (by decide) jRm_ok (Nat.le_of_ble_eq_true rfl) ⟨(Nat.le_of_ble_eq_true rfl), (Nat.le_of_ble_eq_true rfl)⟩ [0, 1, 2, 3] rfl rfl ?_
  refine r_iconst (v := -1) 60 dX2_could_60 (by decide) ?_
  refine r_ixor 61 dX2_could_61 ?_
  refine r_iand 62 dX2_could_62 ?_
  refine r_ti (y := mI (fun i => sqB S i && !tkB (sqB S) (paB S) i)) (mI_andn _ _) ?_
  exact r_iret 63 dX2_could_63 rfl rfl (Nat.le_of_ble_eq_true rfl) (Nat.le_of_ble_eq_true rfl) (jd rfl)
set_option maxRecDepth 100000 in
set_option maxHeartbeats 400000 in
theorem h_couldX {G : jG} {d : Nat} {x q t ai b pa ql qh : Nat} {sg : Int32} {ov : Value} {S : qS} {u : Int32} (h : ¬ (0 ≤ u ∧ u ≤ 1)) : Ct G yX2_could cX2_could 2 (some .int) (d + 5) 0 0 [.ref x, .int u] (hX x q t ai b pa sg ov :: (wS G q ql qh (S))) (jD (some (.int (-2))) (hX x q t ai b pa sg ov :: (wS G q ql qh (S)))) := by
  refine ct_of (by decide) (Nat.le_of_ble_eq_true rfl) (own := RX2) (nm := "could") rfl rfl (lv := [some (.ref x), some (.int u)]) rfl ?_
  refine r_iload_n 0 dX2_could_0 rfl ?_
  refine r_iconst (v := 0) 1 dX2_could_1 (by decide) ?_
  refine r_iconst (v := 1) 2 dX2_could_2 (by decide) ?_
  refine r_callSD (ws2 := [_, _, _, _]) (wr := [_, _, _, _]) 3 s_X2_46 dX2_could_3 (c_isW0 h) rfl rfl [] [0, 1, 2, 3] rfl rfl rfl rfl (by decide) jRm_ok (Nat.le_of_ble_eq_true rfl) ⟨(Nat.le_of_ble_eq_true rfl), (Nat.le_of_ble_eq_true rfl)⟩ [0, 1, 2, 3] rfl rfl ?_
  refine r_if_neF 6 12 dX2_could_6 (by decide) (by decide) ?_
  refine r_bipush (v := -2) 9 dX2_could_9 (by decide) ?_
  exact r_iret 11 dX2_could_11 rfl rfl (Nat.le_of_ble_eq_true rfl) (Nat.le_of_ble_eq_true rfl) (jd rfl)
def pfI (S : qS) (f k : Nat) : Int32 := if (ptN S f k).1 = 16 then -6 else nI (ptN S f k).2
set_option maxRecDepth 100000 in
set_option maxHeartbeats 400000 in
theorem lp_hpatch0 {G : jG} {d : Nat} {x q t ai b pa ql qh : Nat} {sg : Int32} {ov : Value} {S : qS} {tl th : Nat} (hS : wf S) {f : Nat} (hf : f < 4) : ∀ (n : Nat) (k : Nat) (T : qS), sP S + 1 ≤ k + n → k ≤ sP S → Rn G RX2 "patch" cX2_patch 7 (some .int) (jR (d + 8) 0 0) jX0 (jE G (fun v w => v = some (.int (nN (ptN S f (sP S)).1)) ∧ ∃ T2 : qS, w = (hX x q t ai b pa sg ov :: (wS G q ql qh (S) ++ wS G t tl th (T2)))) 0 0) 0 0 31 [some (.ref x), some (.int (nI f)), some (.int 0), some (.int (nN (ptN S f k).1)), some (.int (pfI S f k)), some (.int (nI k)), none] [] (hX x q t ai b pa sg ov :: (wS G q ql qh (S) ++ wS G t tl th (T))) := by
  intro n
  induction n with
  | zero => intros; omega
  | succ n ih =>
    intro k T h1 h2
    have h16 := hS.p16
    refine r_iload 31 dX2_patch_31 rfl ?_
    refine r_aload_n 33 dX2_patch_33 rfl ?_
    refine r_get 34 f_X2_10 dX2_patch_34 0 rfl rfl ?_
    refine r_callVD (ws2 := [_, _, _, _, _, _, _]) (wr := [_, _, _, _]) 37 s_X2_50 dX2_patch_37 (q_places) rfl rfl 0 rfl rfl rfl [1, 2, 3] [0, 4, 5, 6] rfl rfl rfl rfl (by decide) jRm_ok (Nat.le_of_ble_eq_true rfl) ⟨(Nat.le_of_ble_eq_true rfl), (Nat.le_of_ble_eq_true rfl)⟩ [0, 4, 5, 6, 1, 2, 3] rfl rfl ?_
    refine r_icmp_geN 40 115 dX2_patch_40 (by decide) (by omega) (by omega) (fun c_40 => ?_) (fun c_40 => ?_)
    · -- 40T
      obtain rfl : k = sP S := by omega
      refine r_iload_n 115 dX2_patch_115 rfl ?_
      refine r_if_neF 116 123 dX2_patch_116 (by decide) (by decide) ?_
      refine r_iload_n 119 dX2_patch_119 rfl ?_
      refine r_goto 120 125 dX2_patch_120 (by decide) ?_
      exact r_iret 125 dX2_patch_125 rfl rfl (Nat.le_of_ble_eq_true rfl) (Nat.le_of_ble_eq_true rfl) (⟨rfl, T, rfl⟩)
    · -- 40F
      refine r_aload_n 43 dX2_patch_43 rfl ?_
      refine r_get 44 f_X2_10 dX2_patch_44 0 rfl rfl ?_
      refine r_iload 47 dX2_patch_47 rfl ?_
      refine r_callVD (ws2 := [_, _, _, _, _, _, _]) (wr := [_, _, _, _]) 49 s_X2_119 dX2_patch_49 (c_X1_hasSquare (show k < 16 by omega)) rfl rfl 0 rfl rfl rfl [1, 2, 3] [0, 4, 5, 6] rfl rfl rfl rfl (by decide) jRm_ok (Nat.le_of_ble_eq_true rfl) ⟨(Nat.le_of_ble_eq_true rfl), (Nat.le_of_ble_eq_true rfl)⟩ [0, 4, 5, 6, 1, 2, 3] rfl rfl ?_
      refine r_if_neB 52 109 dX2_patch_52 (by decide) (fun c_52 => ?_) (fun c_52 => ?_)
      · -- 52T
        have e := ptN_1 (f := f) (sqB_iff.mp c_52)
        refine r_iinc (lv2 := [_, _, _, _, _, _, none]) 109 dX2_patch_109 rfl (jinc) (by decide) rfl rfl ?_
        refine r_goto 112 31 dX2_patch_112 (by decide) ?_
        refine r_drop (lv2 := [_, _, _, _, _, _, none]) 6 rfl ?_
        have hih := fun T => ih (k + 1) T (by omega) (by omega)
        first
        | (have e2 : pfI S f (k + 1) = pfI S f k := (by unfold pfI; rw [e])
           rw [e2, e] at hih
           exact hih _)
        | (have e2 : pfI S f (k + 1) = nI (ptC S f k) := (by unfold pfI; rw [e]; exact if_neg (show ¬ k = 16 by omega))
           rw [e2, e, show nN (k, ptC S f k).1 = nI k from (nN_k (by omega)).symm] at hih
           exact hih _)
      · -- 52F
        have hk4 : ¬ sF S k < 4 := fun z => c_52 (sqB_iff.mpr z)
        have h4 : sF S k = 4 := by have := hS.f4 k; omega
        refine r_aload_n 55 dX2_patch_55 rfl ?_
        refine r_get 56 f_X2_16 dX2_patch_56 0 rfl rfl ?_
        refine r_aload_n 59 dX2_patch_59 rfl ?_
        refine r_get 60 f_X2_10 dX2_patch_60 0 rfl rfl ?_
        refine r_callVD (ws2 := [_, _, _, _, _, _, _]) (wr := [_]) 63 s_X2_143 dX2_patch_63 (q_become) rfl rfl 0 rfl rfl rfl [4, 5, 6, 1, 2, 3] [0] rfl rfl rfl rfl (by decide) jRm_ok (Nat.le_of_ble_eq_true rfl) ⟨(Nat.le_of_ble_eq_true rfl), (Nat.le_of_ble_eq_true rfl)⟩ [0, 4, 5, 6, 1, 2, 3] rfl rfl ?_
        refine r_aload_n 66 dX2_patch_66 rfl ?_
        refine r_get 67 f_X2_16 dX2_patch_67 0 rfl rfl ?_
        refine r_iload 70 dX2_patch_70 rfl ?_
        refine r_iload_n 72 dX2_patch_72 rfl ?_
        refine r_callVD (ws2 := [_, _, _, _, _, _, _]) (wr := [_, _, _, _]) 73 s_X2_122 dX2_patch_73 (q_bear2 hS (show k < sP S by omega) (show k < 16 by omega) hf h4) rfl rfl 0 rfl rfl rfl [4, 5, 6] [0, 1, 2, 3] rfl rfl rfl rfl (by decide) jRm_ok (Nat.le_of_ble_eq_true rfl) ⟨(Nat.le_of_ble_eq_true rfl), (Nat.le_of_ble_eq_true rfl)⟩ [0, 1, 2, 3, 4, 5, 6] rfl rfl ?_
        refine r_pop 76 dX2_patch_76 rfl ?_
        refine r_aload_n 77 dX2_patch_77 rfl ?_
        refine r_get 78 f_X2_16 dX2_patch_78 0 rfl rfl ?_
        refine r_callVD (ws2 := [_, _, _, _, _, _, _]) (wr := [_, _, _, _]) 81 s_X2_134 dX2_patch_81 (c_X1_coldSquares (wf_be hS (show k < sP S by omega) hf h4)) rfl rfl 0 rfl rfl rfl [4, 5, 6] [0, 1, 2, 3] rfl rfl rfl rfl (by decide) jRm_ok (Nat.le_of_ble_eq_true rfl) ⟨(Nat.le_of_ble_eq_true rfl), (Nat.le_of_ble_eq_true rfl)⟩ [0, 1, 2, 3, 4, 5, 6] rfl rfl ?_
        refine r_callSD (ws2 := [_, _, _, _, _, _, _]) (wr := [_, _, _, _, _, _, _]) 84 s_X2_70 dX2_patch_84 (c_bitCount) rfl rfl [] [0, 1, 2, 3, 4, 5, 6] rfl rfl rfl rfl (by decide) jRm_ok (Nat.le_of_ble_eq_true rfl) ⟨(Nat.le_of_ble_eq_true rfl), (Nat.le_of_ble_eq_true rfl)⟩ [0, 1, 2, 3, 4, 5, 6] rfl rfl ?_
        refine r_istore (lv2 := [_, _, _, _, _, _, _]) 87 dX2_patch_87 (by decide) rfl rfl ?_
        refine r_iload_n 89 dX2_patch_89 rfl ?_
        refine r_bipush (v := -6) 90 dX2_patch_90 (by decide) ?_
        refine r_icmp_eq 92 102 dX2_patch_92 (by decide) (fun c_92 => ?_) (fun c_92 => ?_)
        · -- 92T
          have hb : (ptN S f k).1 = 16 := (nN_eq (ptN_le S f k (by omega)).1).mp c_92
          have e := ptN_2 (f := f) hk4 (Or.inl hb)
          refine r_iload 102 dX2_patch_102 rfl ?_
          refine r_istore_n (lv2 := [_, _, _, _, _, _, _]) 104 dX2_patch_104 (by decide) rfl rfl ?_
          refine r_iload 105 dX2_patch_105 rfl ?_
          refine r_istore (lv2 := [_, _, _, _, _, _, _]) 107 dX2_patch_107 (by decide) rfl rfl ?_
          refine r_iinc (lv2 := [_, _, _, _, _, _, _]) 109 dX2_patch_109 rfl (jinc) (by decide) rfl rfl ?_
          refine r_goto 112 31 dX2_patch_112 (by decide) ?_
          refine r_drop (lv2 := [_, _, _, _, _, _, none]) 6 rfl ?_
          have hih := fun T => ih (k + 1) T (by omega) (by omega)
          first
          | (have e2 : pfI S f (k + 1) = pfI S f k := (by unfold pfI; rw [e])
             rw [e2, e] at hih
             exact hih _)
          | (have e2 : pfI S f (k + 1) = nI (ptC S f k) := (by unfold pfI; rw [e]; exact if_neg (show ¬ k = 16 by omega))
             rw [e2, e, show nN (k, ptC S f k).1 = nI k from (nN_k (by omega)).symm] at hih
             exact hih _)
        · -- 92F
          have hb : ¬ (ptN S f k).1 = 16 := fun z => c_92 ((nN_eq (ptN_le S f k (by omega)).1).mpr z)
          refine r_iload 95 dX2_patch_95 rfl ?_
          refine r_iload 97 dX2_patch_97 rfl ?_
          refine r_ti (y := nI (ptN S f k).2) (if_neg hb) ?_
          refine r_icmp_geN 99 109 dX2_patch_99 (by decide) (Nat.lt_of_le_of_lt (cnt_le _ 16) (by decide)) (by have := (ptN_le S f k (by omega)).2; omega) (fun c_99 => ?_) (fun c_99 => ?_)
          · -- 99T
            have e := ptN_3 (f := f) hk4 (fun z => z.elim hb (Nat.not_lt.mpr c_99))
            refine r_iinc (lv2 := [_, _, _, _, _, _, _]) 109 dX2_patch_109 rfl (jinc) (by decide) rfl rfl ?_
            refine r_goto 112 31 dX2_patch_112 (by decide) ?_
            refine r_drop (lv2 := [_, _, _, _, _, _, none]) 6 rfl ?_
            have hih := fun T => ih (k + 1) T (by omega) (by omega)
            first
            | (have e2 : pfI S f (k + 1) = pfI S f k := (by unfold pfI; rw [e])
               rw [e2, e] at hih
               exact hih _)
            | (have e2 : pfI S f (k + 1) = nI (ptC S f k) := (by unfold pfI; rw [e]; exact if_neg (show ¬ k = 16 by omega))
               rw [e2, e, show nN (k, ptC S f k).1 = nI k from (nN_k (by omega)).symm] at hih
               exact hih _)
          · -- 99F
            have e := ptN_2 (f := f) hk4 (Or.inr c_99)
            refine r_iload 102 dX2_patch_102 rfl ?_
            refine r_istore_n (lv2 := [_, _, _, _, _, _, _]) 104 dX2_patch_104 (by decide) rfl rfl ?_
            refine r_iload 105 dX2_patch_105 rfl ?_
            refine r_istore (lv2 := [_, _, _, _, _, _, _]) 107 dX2_patch_107 (by decide) rfl rfl ?_
            refine r_iinc (lv2 := [_, _, _, _, _, _, _]) 109 dX2_patch_109 rfl (jinc) (by decide) rfl rfl ?_
            refine r_goto 112 31 dX2_patch_112 (by decide) ?_
            refine r_drop (lv2 := [_, _, _, _, _, _, none]) 6 rfl ?_
            have hih := fun T => ih (k + 1) T (by omega) (by omega)
            first
            | (have e2 : pfI S f (k + 1) = pfI S f k := (by unfold pfI; rw [e])
               rw [e2, e] at hih
               exact hih _)
            | (have e2 : pfI S f (k + 1) = nI (ptC S f k) := (by unfold pfI; rw [e]; exact if_neg (show ¬ k = 16 by omega))
               rw [e2, e, show nN (k, ptC S f k).1 = nI k from (nN_k (by omega)).symm] at hih
               exact hih _)
set_option maxRecDepth 100000 in
set_option maxHeartbeats 400000 in
theorem h_patch0 {G : jG} {d : Nat} {x q t ai b pa ql qh : Nat} {sg : Int32} {ov : Value} {S T : qS} {tl th : Nat} (hS : wf S) {f : Nat} (hf : f < 4) : Ct G yX2_patch cX2_patch 7 (some .int) (d + 8) 0 0 [.ref x, .int (nI f), .int 0] (hX x q t ai b pa sg ov :: (wS G q ql qh (S) ++ wS G t tl th (T))) (fun v w => v = some (.int (nN (ptN S f (sP S)).1)) ∧ ∃ T2 : qS, w = (hX x q t ai b pa sg ov :: (wS G q ql qh (S) ++ wS G t tl th (T2)))) := by
  refine ct_of (by decide) (Nat.le_of_ble_eq_true rfl) (own := RX2) (nm := "patch") rfl rfl (lv := [some (.ref x), some (.int (nI f)), some (.int 0), none, none, none, none]) rfl ?_
  refine r_iload_n 0 dX2_patch_0 rfl ?_
  refine r_callSD (ws2 := [_, _, _, _, _, _, _]) (wr := [_, _, _, _, _, _, _]) 1 s_X2_83 dX2_patch_1 (c_isFam1 hf) rfl rfl [] [0, 1, 2, 3, 4, 5, 6] rfl rfl rfl rfl (by decide) jRm_ok (Nat.le_of_ble_eq_true rfl) ⟨(Nat.le_of_ble_eq_true rfl), (Nat.le_of_ble_eq_true rfl)⟩ [0, 1, 2, 3, 4, 5, 6] rfl rfl ?_
  refine r_if_neT 4 9 dX2_patch_4 (by decide) (by decide) ?_
  refine r_iload_n 9 dX2_patch_9 rfl ?_
  refine r_iconst (v := 0) 10 dX2_patch_10 (by decide) ?_
  refine r_iconst (v := 1) 11 dX2_patch_11 (by decide) ?_
  refine r_callSD (ws2 := [_, _, _, _, _, _, _]) (wr := [_, _, _, _, _, _, _]) 12 s_X2_46 dX2_patch_12 (c_isW (by decide)) rfl rfl [] [0, 1, 2, 3, 4, 5, 6] rfl rfl rfl rfl (by decide) jRm_ok (Nat.le_of_ble_eq_true rfl) ⟨(Nat.le_of_ble_eq_true rfl), (Nat.le_of_ble_eq_true rfl)⟩ [0, 1, 2, 3, 4, 5, 6] rfl rfl ?_
  refine r_if_neT 15 21 dX2_patch_15 (by decide) (by decide) ?_
  refine r_bipush (v := -6) 21 dX2_patch_21 (by decide) ?_
  refine r_istore_n (lv2 := [_, _, _, _, none, none, none]) 23 dX2_patch_23 (by decide) rfl rfl ?_
  refine r_bipush (v := -6) 24 dX2_patch_24 (by decide) ?_
  refine r_istore (lv2 := [_, _, _, _, _, none, none]) 26 dX2_patch_26 (by decide) rfl rfl ?_
  refine r_iconst (v := 0) 28 dX2_patch_28 (by decide) ?_
  refine r_ti (y := nI 0) (nI_0.symm) ?_
  refine r_istore (lv2 := [_, _, _, _, _, _, none]) 29 dX2_patch_29 (by decide) rfl rfl ?_
  exact lp_hpatch0 hS hf (sP S + 1) 0 T (by omega) (by omega)
set_option maxRecDepth 100000 in
set_option maxHeartbeats 400000 in
theorem lp_hpatch1 {G : jG} {d : Nat} {x q t ai b pa ql qh : Nat} {sg : Int32} {ov : Value} {S : qS} {tl th : Nat} (hS : wf S) {f : Nat} (hf : f < 4) : ∀ (n : Nat) (k : Nat) (T : qS), sP S + 1 ≤ k + n → k ≤ sP S → Rn G RX2 "patch" cX2_patch 7 (some .int) (jR (d + 8) 0 0) jX0 (jE G (fun v w => v = some (.int (ptR S f)) ∧ ∃ T2 : qS, w = (hX x q t ai b pa sg ov :: (wS G q ql qh (S) ++ wS G t tl th (T2)))) 0 0) 0 0 31 [some (.ref x), some (.int (nI f)), some (.int 1), some (.int (nN (ptN S f k).1)), some (.int (pfI S f k)), some (.int (nI k)), none] [] (hX x q t ai b pa sg ov :: (wS G q ql qh (S) ++ wS G t tl th (T))) := by
  intro n
  induction n with
  | zero => intros; omega
  | succ n ih =>
    intro k T h1 h2
    have h16 := hS.p16
    refine r_iload 31 dX2_patch_31 rfl ?_
    refine r_aload_n 33 dX2_patch_33 rfl ?_
    refine r_get 34 f_X2_10 dX2_patch_34 0 rfl rfl ?_
    refine r_callVD (ws2 := [_, _, _, _, _, _, _]) (wr := [_, _, _, _]) 37 s_X2_50 dX2_patch_37 (q_places) rfl rfl 0 rfl rfl rfl [1, 2, 3] [0, 4, 5, 6] rfl rfl rfl rfl (by decide) jRm_ok (Nat.le_of_ble_eq_true rfl) ⟨(Nat.le_of_ble_eq_true rfl), (Nat.le_of_ble_eq_true rfl)⟩ [0, 4, 5, 6, 1, 2, 3] rfl rfl ?_
    refine r_icmp_geN 40 115 dX2_patch_40 (by decide) (by omega) (by omega) (fun c_40 => ?_) (fun c_40 => ?_)
    · -- 40T
      obtain rfl : k = sP S := by omega
      refine r_iload_n 115 dX2_patch_115 rfl ?_
      refine r_if_neT 116 123 dX2_patch_116 (by decide) (by decide) ?_
      refine r_iload 123 dX2_patch_123 rfl ?_
      exact r_iret 125 dX2_patch_125 rfl rfl (Nat.le_of_ble_eq_true rfl) (Nat.le_of_ble_eq_true rfl) (⟨rfl, T, rfl⟩)
    · -- 40F
      refine r_aload_n 43 dX2_patch_43 rfl ?_
      refine r_get 44 f_X2_10 dX2_patch_44 0 rfl rfl ?_
      refine r_iload 47 dX2_patch_47 rfl ?_
      refine r_callVD (ws2 := [_, _, _, _, _, _, _]) (wr := [_, _, _, _]) 49 s_X2_119 dX2_patch_49 (c_X1_hasSquare (show k < 16 by omega)) rfl rfl 0 rfl rfl rfl [1, 2, 3] [0, 4, 5, 6] rfl rfl rfl rfl (by decide) jRm_ok (Nat.le_of_ble_eq_true rfl) ⟨(Nat.le_of_ble_eq_true rfl), (Nat.le_of_ble_eq_true rfl)⟩ [0, 4, 5, 6, 1, 2, 3] rfl rfl ?_
      refine r_if_neB 52 109 dX2_patch_52 (by decide) (fun c_52 => ?_) (fun c_52 => ?_)
      · -- 52T
        have e := ptN_1 (f := f) (sqB_iff.mp c_52)
        refine r_iinc (lv2 := [_, _, _, _, _, _, none]) 109 dX2_patch_109 rfl (jinc) (by decide) rfl rfl ?_
        refine r_goto 112 31 dX2_patch_112 (by decide) ?_
        refine r_drop (lv2 := [_, _, _, _, _, _, none]) 6 rfl ?_
        have hih := fun T => ih (k + 1) T (by omega) (by omega)
        first
        | (have e2 : pfI S f (k + 1) = pfI S f k := (by unfold pfI; rw [e])
           rw [e2, e] at hih
           exact hih _)
        | (have e2 : pfI S f (k + 1) = nI (ptC S f k) := (by unfold pfI; rw [e]; exact if_neg (show ¬ k = 16 by omega))
           rw [e2, e, show nN (k, ptC S f k).1 = nI k from (nN_k (by omega)).symm] at hih
           exact hih _)
      · -- 52F
        have hk4 : ¬ sF S k < 4 := fun z => c_52 (sqB_iff.mpr z)
        have h4 : sF S k = 4 := by have := hS.f4 k; omega
        refine r_aload_n 55 dX2_patch_55 rfl ?_
        refine r_get 56 f_X2_16 dX2_patch_56 0 rfl rfl ?_
        refine r_aload_n 59 dX2_patch_59 rfl ?_
        refine r_get 60 f_X2_10 dX2_patch_60 0 rfl rfl ?_
        refine r_callVD (ws2 := [_, _, _, _, _, _, _]) (wr := [_]) 63 s_X2_143 dX2_patch_63 (q_become) rfl rfl 0 rfl rfl rfl [4, 5, 6, 1, 2, 3] [0] rfl rfl rfl rfl (by decide) jRm_ok (Nat.le_of_ble_eq_true rfl) ⟨(Nat.le_of_ble_eq_true rfl), (Nat.le_of_ble_eq_true rfl)⟩ [0, 4, 5, 6, 1, 2, 3] rfl rfl ?_
        refine r_aload_n 66 dX2_patch_66 rfl ?_
        refine r_get 67 f_X2_16 dX2_patch_67 0 rfl rfl ?_
        refine r_iload 70 dX2_patch_70 rfl ?_
        refine r_iload_n 72 dX2_patch_72 rfl ?_
        refine r_callVD (ws2 := [_, _, _, _, _, _, _]) (wr := [_, _, _, _]) 73 s_X2_122 dX2_patch_73 (q_bear2 hS (show k < sP S by omega) (show k < 16 by omega) hf h4) rfl rfl 0 rfl rfl rfl [4, 5, 6] [0, 1, 2, 3] rfl rfl rfl rfl (by decide) jRm_ok (Nat.le_of_ble_eq_true rfl) ⟨(Nat.le_of_ble_eq_true rfl), (Nat.le_of_ble_eq_true rfl)⟩ [0, 1, 2, 3, 4, 5, 6] rfl rfl ?_
        refine r_pop 76 dX2_patch_76 rfl ?_
        refine r_aload_n 77 dX2_patch_77 rfl ?_
        refine r_get 78 f_X2_16 dX2_patch_78 0 rfl rfl ?_
        refine r_callVD (ws2 := [_, _, _, _, _, _, _]) (wr := [_, _, _, _]) 81 s_X2_134 dX2_patch_81 (c_X1_coldSquares (wf_be hS (show k < sP S by omega) hf h4)) rfl rfl 0 rfl rfl rfl [4, 5, 6] [0, 1, 2, 3] rfl rfl rfl rfl (by decide) jRm_ok (Nat.le_of_ble_eq_true rfl) ⟨(Nat.le_of_ble_eq_true rfl), (Nat.le_of_ble_eq_true rfl)⟩ [0, 1, 2, 3, 4, 5, 6] rfl rfl ?_
        refine r_callSD (ws2 := [_, _, _, _, _, _, _]) (wr := [_, _, _, _, _, _, _]) 84 s_X2_70 dX2_patch_84 (c_bitCount) rfl rfl [] [0, 1, 2, 3, 4, 5, 6] rfl rfl rfl rfl (by decide) jRm_ok (Nat.le_of_ble_eq_true rfl) ⟨(Nat.le_of_ble_eq_true rfl), (Nat.le_of_ble_eq_true rfl)⟩ [0, 1, 2, 3, 4, 5, 6] rfl rfl ?_
        refine r_istore (lv2 := [_, _, _, _, _, _, _]) 87 dX2_patch_87 (by decide) rfl rfl ?_
        refine r_iload_n 89 dX2_patch_89 rfl ?_
        refine r_bipush (v := -6) 90 dX2_patch_90 (by decide) ?_
        refine r_icmp_eq 92 102 dX2_patch_92 (by decide) (fun c_92 => ?_) (fun c_92 => ?_)
        · -- 92T
          have hb : (ptN S f k).1 = 16 := (nN_eq (ptN_le S f k (by omega)).1).mp c_92
          have e := ptN_2 (f := f) hk4 (Or.inl hb)
          refine r_iload 102 dX2_patch_102 rfl ?_
          refine r_istore_n (lv2 := [_, _, _, _, _, _, _]) 104 dX2_patch_104 (by decide) rfl rfl ?_
          refine r_iload 105 dX2_patch_105 rfl ?_
          refine r_istore (lv2 := [_, _, _, _, _, _, _]) 107 dX2_patch_107 (by decide) rfl rfl ?_
          refine r_iinc (lv2 := [_, _, _, _, _, _, _]) 109 dX2_patch_109 rfl (jinc) (by decide) rfl rfl ?_
          refine r_goto 112 31 dX2_patch_112 (by decide) ?_
          refine r_drop (lv2 := [_, _, _, _, _, _, none]) 6 rfl ?_
          have hih := fun T => ih (k + 1) T (by omega) (by omega)
          first
          | (have e2 : pfI S f (k + 1) = pfI S f k := (by unfold pfI; rw [e])
             rw [e2, e] at hih
             exact hih _)
          | (have e2 : pfI S f (k + 1) = nI (ptC S f k) := (by unfold pfI; rw [e]; exact if_neg (show ¬ k = 16 by omega))
             rw [e2, e, show nN (k, ptC S f k).1 = nI k from (nN_k (by omega)).symm] at hih
             exact hih _)
        · -- 92F
          have hb : ¬ (ptN S f k).1 = 16 := fun z => c_92 ((nN_eq (ptN_le S f k (by omega)).1).mpr z)
          refine r_iload 95 dX2_patch_95 rfl ?_
          refine r_iload 97 dX2_patch_97 rfl ?_
          refine r_ti (y := nI (ptN S f k).2) (if_neg hb) ?_
          refine r_icmp_geN 99 109 dX2_patch_99 (by decide) (Nat.lt_of_le_of_lt (cnt_le _ 16) (by decide)) (by have := (ptN_le S f k (by omega)).2; omega) (fun c_99 => ?_) (fun c_99 => ?_)
          · -- 99T
            have e := ptN_3 (f := f) hk4 (fun z => z.elim hb (Nat.not_lt.mpr c_99))
            refine r_iinc (lv2 := [_, _, _, _, _, _, _]) 109 dX2_patch_109 rfl (jinc) (by decide) rfl rfl ?_
            refine r_goto 112 31 dX2_patch_112 (by decide) ?_
            refine r_drop (lv2 := [_, _, _, _, _, _, none]) 6 rfl ?_
            have hih := fun T => ih (k + 1) T (by omega) (by omega)
            first
            | (have e2 : pfI S f (k + 1) = pfI S f k := (by unfold pfI; rw [e])
               rw [e2, e] at hih
               exact hih _)
            | (have e2 : pfI S f (k + 1) = nI (ptC S f k) := (by unfold pfI; rw [e]; exact if_neg (show ¬ k = 16 by omega))
               rw [e2, e, show nN (k, ptC S f k).1 = nI k from (nN_k (by omega)).symm] at hih
               exact hih _)
          · -- 99F
            have e := ptN_2 (f := f) hk4 (Or.inr c_99)
            refine r_iload 102 dX2_patch_102 rfl ?_
            refine r_istore_n (lv2 := [_, _, _, _, _, _, _]) 104 dX2_patch_104 (by decide) rfl rfl ?_
            refine r_iload 105 dX2_patch_105 rfl ?_
            refine r_istore (lv2 := [_, _, _, _, _, _, _]) 107 dX2_patch_107 (by decide) rfl rfl ?_
            refine r_iinc (lv2 := [_, _, _, _, _, _, _]) 109 dX2_patch_109 rfl (jinc) (by decide) rfl rfl ?_
            refine r_goto 112 31 dX2_patch_112 (by decide) ?_
            refine r_drop (lv2 := [_, _, _, _, _, _, none]) 6 rfl ?_
            have hih := fun T => ih (k + 1) T (by omega) (by omega)
            first
            | (have e2 : pfI S f (k + 1) = pfI S f k := (by unfold pfI; rw [e])
               rw [e2, e] at hih
               exact hih _)
            | (have e2 : pfI S f (k + 1) = nI (ptC S f k) := (by unfold pfI; rw [e]; exact if_neg (show ¬ k = 16 by omega))
               rw [e2, e, show nN (k, ptC S f k).1 = nI k from (nN_k (by omega)).symm] at hih
               exact hih _)
set_option maxRecDepth 100000 in
set_option maxHeartbeats 400000 in
theorem h_patch1 {G : jG} {d : Nat} {x q t ai b pa ql qh : Nat} {sg : Int32} {ov : Value} {S T : qS} {tl th : Nat} (hS : wf S) {f : Nat} (hf : f < 4) : Ct G yX2_patch cX2_patch 7 (some .int) (d + 8) 0 0 [.ref x, .int (nI f), .int 1] (hX x q t ai b pa sg ov :: (wS G q ql qh (S) ++ wS G t tl th (T))) (fun v w => v = some (.int (ptR S f)) ∧ ∃ T2 : qS, w = (hX x q t ai b pa sg ov :: (wS G q ql qh (S) ++ wS G t tl th (T2)))) := by
  refine ct_of (by decide) (Nat.le_of_ble_eq_true rfl) (own := RX2) (nm := "patch") rfl rfl (lv := [some (.ref x), some (.int (nI f)), some (.int 1), none, none, none, none]) rfl ?_
  refine r_iload_n 0 dX2_patch_0 rfl ?_
  refine r_callSD (ws2 := [_, _, _, _, _, _, _]) (wr := [_, _, _, _, _, _, _]) 1 s_X2_83 dX2_patch_1 (c_isFam1 hf) rfl rfl [] [0, 1, 2, 3, 4, 5, 6] rfl rfl rfl rfl (by decide) jRm_ok (Nat.le_of_ble_eq_true rfl) ⟨(Nat.le_of_ble_eq_true rfl), (Nat.le_of_ble_eq_true rfl)⟩ [0, 1, 2, 3, 4, 5, 6] rfl rfl ?_
  refine r_if_neT 4 9 dX2_patch_4 (by decide) (by decide) ?_
  refine r_iload_n 9 dX2_patch_9 rfl ?_
  refine r_iconst (v := 0) 10 dX2_patch_10 (by decide) ?_
  refine r_iconst (v := 1) 11 dX2_patch_11 (by decide) ?_
  refine r_callSD (ws2 := [_, _, _, _, _, _, _]) (wr := [_, _, _, _, _, _, _]) 12 s_X2_46 dX2_patch_12 (c_isW (by decide)) rfl rfl [] [0, 1, 2, 3, 4, 5, 6] rfl rfl rfl rfl (by decide) jRm_ok (Nat.le_of_ble_eq_true rfl) ⟨(Nat.le_of_ble_eq_true rfl), (Nat.le_of_ble_eq_true rfl)⟩ [0, 1, 2, 3, 4, 5, 6] rfl rfl ?_
  refine r_if_neT 15 21 dX2_patch_15 (by decide) (by decide) ?_
  refine r_bipush (v := -6) 21 dX2_patch_21 (by decide) ?_
  refine r_istore_n (lv2 := [_, _, _, _, none, none, none]) 23 dX2_patch_23 (by decide) rfl rfl ?_
  refine r_bipush (v := -6) 24 dX2_patch_24 (by decide) ?_
  refine r_istore (lv2 := [_, _, _, _, _, none, none]) 26 dX2_patch_26 (by decide) rfl rfl ?_
  refine r_iconst (v := 0) 28 dX2_patch_28 (by decide) ?_
  refine r_ti (y := nI 0) (nI_0.symm) ?_
  refine r_istore (lv2 := [_, _, _, _, _, _, none]) 29 dX2_patch_29 (by decide) rfl rfl ?_
  exact lp_hpatch1 hS hf (sP S + 1) 0 T (by omega) (by omega)
set_option maxRecDepth 100000 in
set_option maxHeartbeats 400000 in
theorem h_patchU {G : jG} {d : Nat} {x q t ai b pa ql qh : Nat} {sg : Int32} {ov : Value} {S : qS} {u v : Int32} (h : ¬ (0 ≤ u ∧ u ≤ 3)) : Ct G yX2_patch cX2_patch 7 (some .int) (d + 8) 0 0 [.ref x, .int u, .int v] (hX x q t ai b pa sg ov :: (wS G q ql qh (S))) (jD (some (.int (-1))) (hX x q t ai b pa sg ov :: (wS G q ql qh (S)))) := by
  refine ct_of (by decide) (Nat.le_of_ble_eq_true rfl) (own := RX2) (nm := "patch") rfl rfl (lv := [some (.ref x), some (.int u), some (.int v), none, none, none, none]) rfl ?_
  refine r_iload_n 0 dX2_patch_0 rfl ?_
  refine r_callSD (ws2 := [_, _, _, _]) (wr := [_, _, _, _]) 1 s_X2_83 dX2_patch_1 (c_isFam0 h) rfl rfl [] [0, 1, 2, 3] rfl rfl rfl rfl (by decide) jRm_ok (Nat.le_of_ble_eq_true rfl) ⟨(Nat.le_of_ble_eq_true rfl), (Nat.le_of_ble_eq_true rfl)⟩ [0, 1, 2, 3] rfl rfl ?_
  refine r_if_neF 4 9 dX2_patch_4 (by decide) (by decide) ?_
  refine r_iconst (v := -1) 7 dX2_patch_7 (by decide) ?_
  exact r_iret 8 dX2_patch_8 rfl rfl (Nat.le_of_ble_eq_true rfl) (Nat.le_of_ble_eq_true rfl) (jd rfl)
set_option maxRecDepth 100000 in
set_option maxHeartbeats 400000 in
theorem h_patchO {G : jG} {d : Nat} {x q t ai b pa ql qh : Nat} {sg : Int32} {ov : Value} {S : qS} {u v : Int32} (hu : 0 ≤ u ∧ u ≤ 3) (h : ¬ (0 ≤ v ∧ v ≤ 1)) : Ct G yX2_patch cX2_patch 7 (some .int) (d + 8) 0 0 [.ref x, .int u, .int v] (hX x q t ai b pa sg ov :: (wS G q ql qh (S))) (jD (some (.int (-2))) (hX x q t ai b pa sg ov :: (wS G q ql qh (S)))) := by
  refine ct_of (by decide) (Nat.le_of_ble_eq_true rfl) (own := RX2) (nm := "patch") rfl rfl (lv := [some (.ref x), some (.int u), some (.int v), none, none, none, none]) rfl ?_
  refine r_iload_n 0 dX2_patch_0 rfl ?_
  refine r_callSD (ws2 := [_, _, _, _]) (wr := [_, _, _, _]) 1 s_X2_83 dX2_patch_1 (c_X2_isFamily) rfl rfl [] [0, 1, 2, 3] rfl rfl rfl rfl (by decide) jRm_ok (Nat.le_of_ble_eq_true rfl) ⟨(Nat.le_of_ble_eq_true rfl), (Nat.le_of_ble_eq_true rfl)⟩ [0, 1, 2, 3] rfl rfl ?_
  refine r_if_neB 4 9 dX2_patch_4 (by decide) (fun c_4 => ?_) (fun c_4 => ?_)
  · -- 4T
    refine r_iload_n 9 dX2_patch_9 rfl ?_
    refine r_iconst (v := 0) 10 dX2_patch_10 (by decide) ?_
    refine r_iconst (v := 1) 11 dX2_patch_11 (by decide) ?_
    refine r_callSD (ws2 := [_, _, _, _]) (wr := [_, _, _, _]) 12 s_X2_46 dX2_patch_12 (c_isW0 h) rfl rfl [] [0, 1, 2, 3] rfl rfl rfl rfl (by decide) jRm_ok (Nat.le_of_ble_eq_true rfl) ⟨(Nat.le_of_ble_eq_true rfl), (Nat.le_of_ble_eq_true rfl)⟩ [0, 1, 2, 3] rfl rfl ?_
    refine r_if_neF 15 21 dX2_patch_15 (by decide) (by decide) ?_
    refine r_bipush (v := -2) 18 dX2_patch_18 (by decide) ?_
    exact r_iret 20 dX2_patch_20 rfl rfl (Nat.le_of_ble_eq_true rfl) (Nat.le_of_ble_eq_true rfl) (jd rfl)
  · -- 4F
    exact absurd hu c_4
set_option maxRecDepth 100000 in
set_option maxHeartbeats 400000 in
theorem h_turn {G : jG} {d : Nat} {x q t ai b pa ql qh : Nat} {sg : Int32} {ov : Value} {S T : qS} {tl th : Nat} (hS : wf S) : Ct G yX2_turn cX2_turn 1 (some .int) (d + 6) 0 0 [.ref x] (hX x q t ai b pa sg ov :: (wS G q ql qh (S) ++ wS G t tl th (T))) (jD (some (.int (nI (sP (tuS S))))) (hX x q t ai b pa sg ov :: (wS G q ql qh (tuS S) ++ wS G t tl th (S)))) := by
  refine ct_of (by decide) (Nat.le_of_ble_eq_true rfl) (own := RX2) (nm := "turn") rfl rfl (lv := [some (.ref x)]) rfl ?_
  refine r_aload_n 0 dX2_turn_0 rfl ?_
  refine r_get 1 f_X2_16 dX2_turn_1 0 rfl rfl ?_
  refine r_aload_n 4 dX2_turn_4 rfl ?_
  refine r_get 5 f_X2_10 dX2_turn_5 0 rfl rfl ?_
  refine r_callVD (ws2 := [_, _, _, _, _, _, _]) (wr := [_]) 8 s_X2_143 dX2_turn_8 (q_become) rfl rfl 0 rfl rfl rfl [4, 5, 6, 1, 2, 3] [0] rfl rfl rfl rfl (by decide) jRm_ok (Nat.le_of_ble_eq_true rfl) ⟨(Nat.le_of_ble_eq_true rfl), (Nat.le_of_ble_eq_true rfl)⟩ [0, 4, 5, 6, 1, 2, 3] rfl rfl ?_
  refine r_aload_n 11 dX2_turn_11 rfl ?_
  refine r_get 12 f_X2_10 dX2_turn_12 0 rfl rfl ?_
  refine r_aload_n 15 dX2_turn_15 rfl ?_
  refine r_get 16 f_X2_16 dX2_turn_16 0 rfl rfl ?_
  refine r_callVD (ws2 := [_, _, _, _, _, _, _]) (wr := [_]) 19 s_X2_200 dX2_turn_19 (q_becomeTurned hS) rfl rfl 0 rfl rfl rfl [1, 2, 3, 4, 5, 6] [0] rfl rfl rfl rfl (by decide) jRm_ok (Nat.le_of_ble_eq_true rfl) ⟨(Nat.le_of_ble_eq_true rfl), (Nat.le_of_ble_eq_true rfl)⟩ [0, 1, 2, 3, 4, 5, 6] rfl rfl ?_
  refine r_aload_n 22 dX2_turn_22 rfl ?_
  refine r_get 23 f_X2_10 dX2_turn_23 0 rfl rfl ?_
  refine r_callVD (ws2 := [_, _, _, _, _, _, _]) (wr := [_, _, _, _]) 26 s_X2_50 dX2_turn_26 (q_places (S := tuS S)) rfl rfl 0 rfl rfl rfl [1, 2, 3] [0, 4, 5, 6] rfl rfl rfl rfl (by decide) jRm_ok (Nat.le_of_ble_eq_true rfl) ⟨(Nat.le_of_ble_eq_true rfl), (Nat.le_of_ble_eq_true rfl)⟩ [0, 4, 5, 6, 1, 2, 3] rfl rfl ?_
  exact r_iret 29 dX2_turn_29 rfl rfl (Nat.le_of_ble_eq_true rfl) (Nat.le_of_ble_eq_true rfl) (jd rfl)
theorem yr_step {y : Nat} (hy : y < 65537) : nI (75 * y + 74) - nI (75 * y + 74) / 65537 * 65537 = nI (yrX y) := pk_rem (d := 65537) (by omega) (by decide) (by decide)
theorem max_pl {n : Nat} (h : 1 ≤ n) (h2 : n ≤ 16) : (if (1 : Int32) < nI n then nI n else 1) = nI n := by
  by_cases h3 : 1 < n
  · exact if_pos (nI_lt (a := 1) h3 (by omega))
  · obtain rfl : n = 1 := by omega
    rfl
set_option maxRecDepth 100000 in
set_option maxHeartbeats 400000 in
theorem lp_hyears0 {G : jG} {d : Nat} {x q t ai b pa ql qh : Nat} {sg : Int32} {ov : Value} {S : qS} {tl th : Nat} (hS : wf S) {x0 N : Nat} (hx0 : x0 < 65537) (hN : N ≤ 99) : ∀ (n : Nat) (k : Nat), N + 1 ≤ k + n → k ≤ N → Rn G RX2 "years" cX2_years 9 (some .int) (jR (d + 7) 0 0) jX0 (jE G (fun v w => v = some (.int (nI (yrI S x0 N).2.2)) ∧ ∃ T2 : qS, w = (hX x q t ai b pa sg ov :: (wS G q ql qh (S) ++ wS G t tl th (T2)))) 0 0) 0 0 66 [some (.ref x), some (.int (nI x0)), some (.int (nI N)), some (.int 0), some (.int (nI (sP S))), some (.int (nI (yrI S x0 k).2.2)), some (.int (nI (yrI S x0 k).1)), some (.int (nI k)), none] [] (hX x q t ai b pa sg ov :: (wS G q ql qh (S) ++ wS G t tl th ((yrI S x0 k).2.1))) := by
  intro n
  induction n with
  | zero => intros; omega
  | succ n ih =>
    intro k h1 h2
    have h16 := hS.p16
    have h1p := hS.p1
    have hy := yr_x (S := S) hx0 k
    have hpl : yrX (yrI S x0 k).1 % sP S < sP S := Nat.mod_lt _ (by omega)
    have hyw := yr_wf hS (x0 := x0) k
    have hyx : yrX (yrI S x0 k).1 < 65537 := Nat.mod_lt _ (by decide)
    refine r_iload 66 dX2_years_66 rfl ?_
    refine r_iload_n 68 dX2_years_68 rfl ?_
    refine r_icmp_geN 69 143 dX2_years_69 (by decide) (by omega) (by omega) (fun c_69 => ?_) (fun c_69 => ?_)
    · -- 69T
      obtain rfl : k = N := by omega
      refine r_iload_n 143 dX2_years_143 rfl ?_
      refine r_tableIn 144 172 dX2_years_144 (by decide) (by decide) rfl (by decide) ?_
      refine r_iload 172 dX2_years_172 rfl ?_
      exact r_iret 174 dX2_years_174 rfl rfl (Nat.le_of_ble_eq_true rfl) (Nat.le_of_ble_eq_true rfl) (⟨rfl, _, rfl⟩)
    · -- 69F
      refine r_bipush (v := 75) 72 dX2_years_72 (by decide) ?_
      refine r_iload 74 dX2_years_74 rfl ?_
      refine r_imul 76 dX2_years_76 ?_
      refine r_ti (y := nI (75 * (yrI S x0 k).1)) (pk_mul 75 _) ?_
      refine r_bipush (v := 74) 77 dX2_years_77 (by decide) ?_
      refine r_iadd 79 dX2_years_79 ?_
      refine r_ti (y := nI (75 * (yrI S x0 k).1 + 74)) (nI_add _ 74) ?_
      refine r_ldc 80 q_X2_203 dX2_years_80 ?_
      refine r_irem 82 dX2_years_82 (by decide) ?_
      refine r_ti (y := nI (yrX (yrI S x0 k).1)) (yr_step hy) ?_
      refine r_istore (lv2 := [_, _, _, _, _, _, _, _, none]) 83 dX2_years_83 (by decide) rfl rfl ?_
      refine r_iload 85 dX2_years_85 rfl ?_
      refine r_iload 87 dX2_years_87 rfl ?_
      refine r_irem 89 dX2_years_89 (fun z => absurd ((nI_z (by omega)).mp z) (by omega)) ?_
      refine r_ti (y := nI (yrX (yrI S x0 k).1 % sP S)) (pk_rem (by omega) (by omega) (by omega)) ?_
      refine r_istore (lv2 := [_, _, _, _, _, _, _, _, _]) 90 dX2_years_90 (by decide) rfl rfl ?_
      refine r_aload_n 92 dX2_years_92 rfl ?_
      refine r_get 93 f_X2_16 dX2_years_93 0 rfl rfl ?_
      refine r_iload 96 dX2_years_96 rfl ?_
      refine r_callVD (ws2 := [_, _, _, _, _, _, _]) (wr := [_, _, _, _]) 98 s_X2_119 dX2_years_98 (c_X1_hasSquare (S := (yrI S x0 k).2.1) (show yrX (yrI S x0 k).1 % sP S < 16 by omega)) rfl rfl 0 rfl rfl rfl [4, 5, 6] [0, 1, 2, 3] rfl rfl rfl rfl (by decide) jRm_ok (Nat.le_of_ble_eq_true rfl) ⟨(Nat.le_of_ble_eq_true rfl), (Nat.le_of_ble_eq_true rfl)⟩ [0, 1, 2, 3, 4, 5, 6] rfl rfl ?_
      refine r_if_eqB 101 117 dX2_years_101 (by decide) (fun c_101 => ?_) (fun c_101 => ?_)
      · -- 101T
        refine r_aload_n 117 dX2_years_117 rfl ?_
        refine r_get 118 f_X2_16 dX2_years_118 0 rfl rfl ?_
        refine r_iload 121 dX2_years_121 rfl ?_
        refine r_iload 123 dX2_years_123 rfl ?_
        refine r_bipush (v := 16) 125 dX2_years_125 (by decide) ?_
        refine r_idiv 127 dX2_years_127 (by decide) ?_
        refine r_ti (y := nI (yrX (yrI S x0 k).1 / 16)) (pk_div (d := 16) (by omega) (by decide) (by decide)) ?_
        refine r_iconst (v := 4) 128 dX2_years_128 (by decide) ?_
        refine r_irem 129 dX2_years_129 (by decide) ?_
        refine r_ti (y := nI (yrX (yrI S x0 k).1 / 16 % 4)) (pk_rem (d := 4) (by omega) (by decide) (by decide)) ?_
        refine r_callVD (ws2 := [_, _, _, _, _, _, _]) (wr := [_, _, _, _]) 130 s_X2_122 dX2_years_130 (q_bear2 hyw (by rw [yr_P]; exact hpl) (show yrX (yrI S x0 k).1 % sP S < 16 by omega) (Nat.mod_lt _ (by decide)) (by have h5 := hyw.f4 (yrX (yrI S x0 k).1 % sP S); have h6 : ¬ sF (yrI S x0 k).2.1 (yrX (yrI S x0 k).1 % sP S) < 4 := fun z => c_101 (sqB_iff.mpr z); omega)) rfl rfl 0 rfl rfl rfl [4, 5, 6] [0, 1, 2, 3] rfl rfl rfl rfl (by decide) jRm_ok (Nat.le_of_ble_eq_true rfl) ⟨(Nat.le_of_ble_eq_true rfl), (Nat.le_of_ble_eq_true rfl)⟩ [0, 1, 2, 3, 4, 5, 6] rfl rfl ?_
        refine r_pop 133 dX2_years_133 rfl ?_
        refine r_iinc (lv2 := [_, _, _, _, _, _, _, _, _]) 134 dX2_years_134 rfl (jinc) (by decide) rfl rfl ?_
        refine r_iinc (lv2 := [_, _, _, _, _, _, _, _, _]) 137 dX2_years_137 rfl (jinc) (by decide) rfl rfl ?_
        refine r_goto 140 66 dX2_years_140 (by decide) ?_
        refine r_drop (lv2 := [_, _, _, _, _, _, _, _, none]) 8 rfl ?_
        have hih := ih (k + 1) (by omega) (by omega)
        first
        | (rw [yrI_1 (sqB_iff.mp c_101)] at hih; exact hih)
        | (rw [yrI_2 (fun z => c_101 (sqB_iff.mpr z))] at hih; exact hih)
      · -- 101F
        refine r_aload_n 104 dX2_years_104 rfl ?_
        refine r_get 105 f_X2_16 dX2_years_105 0 rfl rfl ?_
        refine r_iload 108 dX2_years_108 rfl ?_
        refine r_callVD (ws2 := [_, _, _, _, _, _, _]) (wr := [_, _, _, _]) 110 s_X2_125 dX2_years_110 (q_bury2 hyw (show yrX (yrI S x0 k).1 % sP S < 16 by omega)) rfl rfl 0 rfl rfl rfl [4, 5, 6] [0, 1, 2, 3] rfl rfl rfl rfl (by decide) jRm_ok (Nat.le_of_ble_eq_true rfl) ⟨(Nat.le_of_ble_eq_true rfl), (Nat.le_of_ble_eq_true rfl)⟩ [0, 1, 2, 3, 4, 5, 6] rfl rfl ?_
        refine r_pop 113 dX2_years_113 rfl ?_
        refine r_goto 114 137 dX2_years_114 (by decide) ?_
        refine r_iinc (lv2 := [_, _, _, _, _, _, _, _, _]) 137 dX2_years_137 rfl (jinc) (by decide) rfl rfl ?_
        refine r_goto 140 66 dX2_years_140 (by decide) ?_
        refine r_drop (lv2 := [_, _, _, _, _, _, _, _, none]) 8 rfl ?_
        have hih := ih (k + 1) (by omega) (by omega)
        first
        | (rw [yrI_1 (sqB_iff.mp c_101)] at hih; exact hih)
        | (rw [yrI_2 (fun z => c_101 (sqB_iff.mpr z))] at hih; exact hih)
set_option maxRecDepth 100000 in
set_option maxHeartbeats 400000 in
theorem h_years0 {G : jG} {d : Nat} {x q t ai b pa ql qh : Nat} {sg : Int32} {ov : Value} {S T : qS} {tl th : Nat} (hS : wf S) {x0 N : Nat} (hx0 : x0 ≤ 9999) (hN1 : 1 ≤ N) (hN : N ≤ 99) : Ct G yX2_years cX2_years 9 (some .int) (d + 7) 0 0 [.ref x, .int (nI x0), .int (nI N), .int 0] (hX x q t ai b pa sg ov :: (wS G q ql qh (S) ++ wS G t tl th (T))) (fun v w => v = some (.int (nI (yrI S x0 N).2.2)) ∧ ∃ T2 : qS, w = (hX x q t ai b pa sg ov :: (wS G q ql qh (S) ++ wS G t tl th (T2)))) := by
  refine ct_of (by decide) (Nat.le_of_ble_eq_true rfl) (own := RX2) (nm := "years") rfl rfl (lv := [some (.ref x), some (.int (nI x0)), some (.int (nI N)), some (.int 0), none, none, none, none, none]) rfl ?_
  refine r_iload_n 0 dX2_years_0 rfl ?_
  refine r_iconst (v := 0) 1 dX2_years_1 (by decide) ?_
  refine r_sipush (v := 9999) 2 dX2_years_2 (by decide) ?_
  refine r_callSD (ws2 := [_, _, _, _, _, _, _]) (wr := [_, _, _, _, _, _, _]) 5 s_X2_46 dX2_years_5 (c_isW (a := 0) (b := 9999) (le_nI hx0 (by decide))) rfl rfl [] [0, 1, 2, 3, 4, 5, 6] rfl rfl rfl rfl (by decide) jRm_ok (Nat.le_of_ble_eq_true rfl) ⟨(Nat.le_of_ble_eq_true rfl), (Nat.le_of_ble_eq_true rfl)⟩ [0, 1, 2, 3, 4, 5, 6] rfl rfl ?_
  refine r_if_eqF 8 30 dX2_years_8 (by decide) (by decide) ?_
  refine r_iload_n 11 dX2_years_11 rfl ?_
  refine r_iconst (v := 1) 12 dX2_years_12 (by decide) ?_
  refine r_bipush (v := 99) 13 dX2_years_13 (by decide) ?_
  refine r_callSD (ws2 := [_, _, _, _, _, _, _]) (wr := [_, _, _, _, _, _, _]) 15 s_X2_46 dX2_years_15 (c_isW (a := 1) (b := 99) ⟨nI_le (a := 1) hN1 (by omega), nI_le (b := 99) hN (by decide)⟩) rfl rfl [] [0, 1, 2, 3, 4, 5, 6] rfl rfl rfl rfl (by decide) jRm_ok (Nat.le_of_ble_eq_true rfl) ⟨(Nat.le_of_ble_eq_true rfl), (Nat.le_of_ble_eq_true rfl)⟩ [0, 1, 2, 3, 4, 5, 6] rfl rfl ?_
  refine r_if_eqF 18 30 dX2_years_18 (by decide) (by decide) ?_
  refine r_iload_n 21 dX2_years_21 rfl ?_
  refine r_iconst (v := 0) 22 dX2_years_22 (by decide) ?_
  refine r_iconst (v := 3) 23 dX2_years_23 (by decide) ?_
  refine r_callSD (ws2 := [_, _, _, _, _, _, _]) (wr := [_, _, _, _, _, _, _]) 24 s_X2_46 dX2_years_24 (c_isW (by decide)) rfl rfl [] [0, 1, 2, 3, 4, 5, 6] rfl rfl rfl rfl (by decide) jRm_ok (Nat.le_of_ble_eq_true rfl) ⟨(Nat.le_of_ble_eq_true rfl), (Nat.le_of_ble_eq_true rfl)⟩ [0, 1, 2, 3, 4, 5, 6] rfl rfl ?_
  refine r_if_neT 27 33 dX2_years_27 (by decide) (by decide) ?_
  refine r_aload_n 33 dX2_years_33 rfl ?_
  refine r_get 34 f_X2_16 dX2_years_34 0 rfl rfl ?_
  refine r_aload_n 37 dX2_years_37 rfl ?_
  refine r_get 38 f_X2_10 dX2_years_38 0 rfl rfl ?_
  refine r_callVD (ws2 := [_, _, _, _, _, _, _]) (wr := [_]) 41 s_X2_143 dX2_years_41 (q_become) rfl rfl 0 rfl rfl rfl [4, 5, 6, 1, 2, 3] [0] rfl rfl rfl rfl (by decide) jRm_ok (Nat.le_of_ble_eq_true rfl) ⟨(Nat.le_of_ble_eq_true rfl), (Nat.le_of_ble_eq_true rfl)⟩ [0, 4, 5, 6, 1, 2, 3] rfl rfl ?_
  refine r_iconst (v := 1) 44 dX2_years_44 (by decide) ?_
  refine r_aload_n 45 dX2_years_45 rfl ?_
  refine r_get 46 f_X2_16 dX2_years_46 0 rfl rfl ?_
  refine r_callVD (ws2 := [_, _, _, _, _, _, _]) (wr := [_, _, _, _]) 49 s_X2_50 dX2_years_49 (q_places (S := S)) rfl rfl 0 rfl rfl rfl [4, 5, 6] [0, 1, 2, 3] rfl rfl rfl rfl (by decide) jRm_ok (Nat.le_of_ble_eq_true rfl) ⟨(Nat.le_of_ble_eq_true rfl), (Nat.le_of_ble_eq_true rfl)⟩ [0, 1, 2, 3, 4, 5, 6] rfl rfl ?_
  refine r_mmax 52 s_X2_155 dX2_years_52 ⟨by show 1 ≤ d + 7; omega, by show 0 + 13 ≤ 40 * (d + 7); omega⟩ ⟨Nat.le_of_ble_eq_true rfl, Nat.le_of_ble_eq_true rfl⟩ ?_
  refine r_ti (y := nI (sP S)) (max_pl hS.p1 hS.p16) ?_
  refine r_istore (lv2 := [_, _, _, _, _, none, none, none, none]) 55 dX2_years_55 (by decide) rfl rfl ?_
  refine r_iconst (v := 0) 57 dX2_years_57 (by decide) ?_
  refine r_ti (y := nI 0) (nI_0.symm) ?_
  refine r_istore (lv2 := [_, _, _, _, _, _, none, none, none]) 58 dX2_years_58 (by decide) rfl rfl ?_
  refine r_iload_n 60 dX2_years_60 rfl ?_
  refine r_istore (lv2 := [_, _, _, _, _, _, _, none, none]) 61 dX2_years_61 (by decide) rfl rfl ?_
  refine r_iconst (v := 0) 63 dX2_years_63 (by decide) ?_
  refine r_ti (y := nI 0) (nI_0.symm) ?_
  refine r_istore (lv2 := [_, _, _, _, _, _, _, _, none]) 64 dX2_years_64 (by decide) rfl rfl ?_
  exact lp_hyears0 hS (by omega) hN (N + 1) 0 (by omega) (by omega)
set_option maxRecDepth 100000 in
set_option maxHeartbeats 400000 in
theorem lp_hyears1 {G : jG} {d : Nat} {x q t ai b pa ql qh : Nat} {sg : Int32} {ov : Value} {S : qS} {tl th : Nat} (hS : wf S) {x0 N : Nat} (hx0 : x0 < 65537) (hN : N ≤ 99) : ∀ (n : Nat) (k : Nat), N + 1 ≤ k + n → k ≤ N → Rn G RX2 "years" cX2_years 9 (some .int) (jR (d + 7) 0 0) jX0 (jE G (fun v w => v = some (.int (nI (N - (yrI S x0 N).2.2))) ∧ ∃ T2 : qS, w = (hX x q t ai b pa sg ov :: (wS G q ql qh (S) ++ wS G t tl th (T2)))) 0 0) 0 0 66 [some (.ref x), some (.int (nI x0)), some (.int (nI N)), some (.int 1), some (.int (nI (sP S))), some (.int (nI (yrI S x0 k).2.2)), some (.int (nI (yrI S x0 k).1)), some (.int (nI k)), none] [] (hX x q t ai b pa sg ov :: (wS G q ql qh (S) ++ wS G t tl th ((yrI S x0 k).2.1))) := by
  intro n
  induction n with
  | zero => intros; omega
  | succ n ih =>
    intro k h1 h2
    have h16 := hS.p16
    have h1p := hS.p1
    have hy := yr_x (S := S) hx0 k
    have hpl : yrX (yrI S x0 k).1 % sP S < sP S := Nat.mod_lt _ (by omega)
    have hyw := yr_wf hS (x0 := x0) k
    have hyx : yrX (yrI S x0 k).1 < 65537 := Nat.mod_lt _ (by decide)
    refine r_iload 66 dX2_years_66 rfl ?_
    refine r_iload_n 68 dX2_years_68 rfl ?_
    refine r_icmp_geN 69 143 dX2_years_69 (by decide) (by omega) (by omega) (fun c_69 => ?_) (fun c_69 => ?_)
    · -- 69T
      obtain rfl : k = N := by omega
      refine r_iload_n 143 dX2_years_143 rfl ?_
      refine r_tableIn 144 175 dX2_years_144 (by decide) (by decide) rfl (by decide) ?_
      refine r_iload_n 175 dX2_years_175 rfl ?_
      refine r_iload 176 dX2_years_176 rfl ?_
      refine r_isub 178 dX2_years_178 ?_
      refine r_ti (y := nI (k - (yrI S x0 k).2.2)) (pk_sub (yr_b k)) ?_
      exact r_iret 179 dX2_years_179 rfl rfl (Nat.le_of_ble_eq_true rfl) (Nat.le_of_ble_eq_true rfl) (⟨rfl, _, rfl⟩)
    · -- 69F
      refine r_bipush (v := 75) 72 dX2_years_72 (by decide) ?_
      refine r_iload 74 dX2_years_74 rfl ?_
      refine r_imul 76 dX2_years_76 ?_
      refine r_ti (y := nI (75 * (yrI S x0 k).1)) (pk_mul 75 _) ?_
      refine r_bipush (v := 74) 77 dX2_years_77 (by decide) ?_
      refine r_iadd 79 dX2_years_79 ?_
      refine r_ti (y := nI (75 * (yrI S x0 k).1 + 74)) (nI_add _ 74) ?_
      refine r_ldc 80 q_X2_203 dX2_years_80 ?_
      refine r_irem 82 dX2_years_82 (by decide) ?_
      refine r_ti (y := nI (yrX (yrI S x0 k).1)) (yr_step hy) ?_
      refine r_istore (lv2 := [_, _, _, _, _, _, _, _, none]) 83 dX2_years_83 (by decide) rfl rfl ?_
      refine r_iload 85 dX2_years_85 rfl ?_
      refine r_iload 87 dX2_years_87 rfl ?_
      refine r_irem 89 dX2_years_89 (fun z => absurd ((nI_z (by omega)).mp z) (by omega)) ?_
      refine r_ti (y := nI (yrX (yrI S x0 k).1 % sP S)) (pk_rem (by omega) (by omega) (by omega)) ?_
      refine r_istore (lv2 := [_, _, _, _, _, _, _, _, _]) 90 dX2_years_90 (by decide) rfl rfl ?_
      refine r_aload_n 92 dX2_years_92 rfl ?_
      refine r_get 93 f_X2_16 dX2_years_93 0 rfl rfl ?_
      refine r_iload 96 dX2_years_96 rfl ?_
      refine r_callVD (ws2 := [_, _, _, _, _, _, _]) (wr := [_, _, _, _]) 98 s_X2_119 dX2_years_98 (c_X1_hasSquare (S := (yrI S x0 k).2.1) (show yrX (yrI S x0 k).1 % sP S < 16 by omega)) rfl rfl 0 rfl rfl rfl [4, 5, 6] [0, 1, 2, 3] rfl rfl rfl rfl (by decide) jRm_ok (Nat.le_of_ble_eq_true rfl) ⟨(Nat.le_of_ble_eq_true rfl), (Nat.le_of_ble_eq_true rfl)⟩ [0, 1, 2, 3, 4, 5, 6] rfl rfl ?_
      refine r_if_eqB 101 117 dX2_years_101 (by decide) (fun c_101 => ?_) (fun c_101 => ?_)
      · -- 101T
        refine r_aload_n 117 dX2_years_117 rfl ?_
        refine r_get 118 f_X2_16 dX2_years_118 0 rfl rfl ?_
        refine r_iload 121 dX2_years_121 rfl ?_
        refine r_iload 123 dX2_years_123 rfl ?_
        refine r_bipush (v := 16) 125 dX2_years_125 (by decide) ?_
        refine r_idiv 127 dX2_years_127 (by decide) ?_
        refine r_ti (y := nI (yrX (yrI S x0 k).1 / 16)) (pk_div (d := 16) (by omega) (by decide) (by decide)) ?_
        refine r_iconst (v := 4) 128 dX2_years_128 (by decide) ?_
        refine r_irem 129 dX2_years_129 (by decide) ?_
        refine r_ti (y := nI (yrX (yrI S x0 k).1 / 16 % 4)) (pk_rem (d := 4) (by omega) (by decide) (by decide)) ?_
        refine r_callVD (ws2 := [_, _, _, _, _, _, _]) (wr := [_, _, _, _]) 130 s_X2_122 dX2_years_130 (q_bear2 hyw (by rw [yr_P]; exact hpl) (show yrX (yrI S x0 k).1 % sP S < 16 by omega) (Nat.mod_lt _ (by decide)) (by have h5 := hyw.f4 (yrX (yrI S x0 k).1 % sP S); have h6 : ¬ sF (yrI S x0 k).2.1 (yrX (yrI S x0 k).1 % sP S) < 4 := fun z => c_101 (sqB_iff.mpr z); omega)) rfl rfl 0 rfl rfl rfl [4, 5, 6] [0, 1, 2, 3] rfl rfl rfl rfl (by decide) jRm_ok (Nat.le_of_ble_eq_true rfl) ⟨(Nat.le_of_ble_eq_true rfl), (Nat.le_of_ble_eq_true rfl)⟩ [0, 1, 2, 3, 4, 5, 6] rfl rfl ?_
        refine r_pop 133 dX2_years_133 rfl ?_
        refine r_iinc (lv2 := [_, _, _, _, _, _, _, _, _]) 134 dX2_years_134 rfl (jinc) (by decide) rfl rfl ?_
        refine r_iinc (lv2 := [_, _, _, _, _, _, _, _, _]) 137 dX2_years_137 rfl (jinc) (by decide) rfl rfl ?_
        refine r_goto 140 66 dX2_years_140 (by decide) ?_
        refine r_drop (lv2 := [_, _, _, _, _, _, _, _, none]) 8 rfl ?_
        have hih := ih (k + 1) (by omega) (by omega)
        first
        | (rw [yrI_1 (sqB_iff.mp c_101)] at hih; exact hih)
        | (rw [yrI_2 (fun z => c_101 (sqB_iff.mpr z))] at hih; exact hih)
      · -- 101F
        refine r_aload_n 104 dX2_years_104 rfl ?_
        refine r_get 105 f_X2_16 dX2_years_105 0 rfl rfl ?_
        refine r_iload 108 dX2_years_108 rfl ?_
        refine r_callVD (ws2 := [_, _, _, _, _, _, _]) (wr := [_, _, _, _]) 110 s_X2_125 dX2_years_110 (q_bury2 hyw (show yrX (yrI S x0 k).1 % sP S < 16 by omega)) rfl rfl 0 rfl rfl rfl [4, 5, 6] [0, 1, 2, 3] rfl rfl rfl rfl (by decide) jRm_ok (Nat.le_of_ble_eq_true rfl) ⟨(Nat.le_of_ble_eq_true rfl), (Nat.le_of_ble_eq_true rfl)⟩ [0, 1, 2, 3, 4, 5, 6] rfl rfl ?_
        refine r_pop 113 dX2_years_113 rfl ?_
        refine r_goto 114 137 dX2_years_114 (by decide) ?_
        refine r_iinc (lv2 := [_, _, _, _, _, _, _, _, _]) 137 dX2_years_137 rfl (jinc) (by decide) rfl rfl ?_
        refine r_goto 140 66 dX2_years_140 (by decide) ?_
        refine r_drop (lv2 := [_, _, _, _, _, _, _, _, none]) 8 rfl ?_
        have hih := ih (k + 1) (by omega) (by omega)
        first
        | (rw [yrI_1 (sqB_iff.mp c_101)] at hih; exact hih)
        | (rw [yrI_2 (fun z => c_101 (sqB_iff.mpr z))] at hih; exact hih)
set_option maxRecDepth 100000 in
set_option maxHeartbeats 400000 in
theorem h_years1 {G : jG} {d : Nat} {x q t ai b pa ql qh : Nat} {sg : Int32} {ov : Value} {S T : qS} {tl th : Nat} (hS : wf S) {x0 N : Nat} (hx0 : x0 ≤ 9999) (hN1 : 1 ≤ N) (hN : N ≤ 99) : Ct G yX2_years cX2_years 9 (some .int) (d + 7) 0 0 [.ref x, .int (nI x0), .int (nI N), .int 1] (hX x q t ai b pa sg ov :: (wS G q ql qh (S) ++ wS G t tl th (T))) (fun v w => v = some (.int (nI (N - (yrI S x0 N).2.2))) ∧ ∃ T2 : qS, w = (hX x q t ai b pa sg ov :: (wS G q ql qh (S) ++ wS G t tl th (T2)))) := by
  refine ct_of (by decide) (Nat.le_of_ble_eq_true rfl) (own := RX2) (nm := "years") rfl rfl (lv := [some (.ref x), some (.int (nI x0)), some (.int (nI N)), some (.int 1), none, none, none, none, none]) rfl ?_
  refine r_iload_n 0 dX2_years_0 rfl ?_
  refine r_iconst (v := 0) 1 dX2_years_1 (by decide) ?_
  refine r_sipush (v := 9999) 2 dX2_years_2 (by decide) ?_
  refine r_callSD (ws2 := [_, _, _, _, _, _, _]) (wr := [_, _, _, _, _, _, _]) 5 s_X2_46 dX2_years_5 (c_isW (a := 0) (b := 9999) (le_nI hx0 (by decide))) rfl rfl [] [0, 1, 2, 3, 4, 5, 6] rfl rfl rfl rfl (by decide) jRm_ok (Nat.le_of_ble_eq_true rfl) ⟨(Nat.le_of_ble_eq_true rfl), (Nat.le_of_ble_eq_true rfl)⟩ [0, 1, 2, 3, 4, 5, 6] rfl rfl ?_
  refine r_if_eqF 8 30 dX2_years_8 (by decide) (by decide) ?_
  refine r_iload_n 11 dX2_years_11 rfl ?_
  refine r_iconst (v := 1) 12 dX2_years_12 (by decide) ?_
  refine r_bipush (v := 99) 13 dX2_years_13 (by decide) ?_
  refine r_callSD (ws2 := [_, _, _, _, _, _, _]) (wr := [_, _, _, _, _, _, _]) 15 s_X2_46 dX2_years_15 (c_isW (a := 1) (b := 99) ⟨nI_le (a := 1) hN1 (by omega), nI_le (b := 99) hN (by decide)⟩) rfl rfl [] [0, 1, 2, 3, 4, 5, 6] rfl rfl rfl rfl (by decide) jRm_ok (Nat.le_of_ble_eq_true rfl) ⟨(Nat.le_of_ble_eq_true rfl), (Nat.le_of_ble_eq_true rfl)⟩ [0, 1, 2, 3, 4, 5, 6] rfl rfl ?_
  refine r_if_eqF 18 30 dX2_years_18 (by decide) (by decide) ?_
  refine r_iload_n 21 dX2_years_21 rfl ?_
  refine r_iconst (v := 0) 22 dX2_years_22 (by decide) ?_
  refine r_iconst (v := 3) 23 dX2_years_23 (by decide) ?_
  refine r_callSD (ws2 := [_, _, _, _, _, _, _]) (wr := [_, _, _, _, _, _, _]) 24 s_X2_46 dX2_years_24 (c_isW (by decide)) rfl rfl [] [0, 1, 2, 3, 4, 5, 6] rfl rfl rfl rfl (by decide) jRm_ok (Nat.le_of_ble_eq_true rfl) ⟨(Nat.le_of_ble_eq_true rfl), (Nat.le_of_ble_eq_true rfl)⟩ [0, 1, 2, 3, 4, 5, 6] rfl rfl ?_
  refine r_if_neT 27 33 dX2_years_27 (by decide) (by decide) ?_
  refine r_aload_n 33 dX2_years_33 rfl ?_
  refine r_get 34 f_X2_16 dX2_years_34 0 rfl rfl ?_
  refine r_aload_n 37 dX2_years_37 rfl ?_
  refine r_get 38 f_X2_10 dX2_years_38 0 rfl rfl ?_
  refine r_callVD (ws2 := [_, _, _, _, _, _, _]) (wr := [_]) 41 s_X2_143 dX2_years_41 (q_become) rfl rfl 0 rfl rfl rfl [4, 5, 6, 1, 2, 3] [0] rfl rfl rfl rfl (by decide) jRm_ok (Nat.le_of_ble_eq_true rfl) ⟨(Nat.le_of_ble_eq_true rfl), (Nat.le_of_ble_eq_true rfl)⟩ [0, 4, 5, 6, 1, 2, 3] rfl rfl ?_
  refine r_iconst (v := 1) 44 dX2_years_44 (by decide) ?_
  refine r_aload_n 45 dX2_years_45 rfl ?_
  refine r_get 46 f_X2_16 dX2_years_46 0 rfl rfl ?_
  refine r_callVD (ws2 := [_, _, _, _, _, _, _]) (wr := [_, _, _, _]) 49 s_X2_50 dX2_years_49 (q_places (S := S)) rfl rfl 0 rfl rfl rfl [4, 5, 6] [0, 1, 2, 3] rfl rfl rfl rfl (by decide) jRm_ok (Nat.le_of_ble_eq_true rfl) ⟨(Nat.le_of_ble_eq_true rfl), (Nat.le_of_ble_eq_true rfl)⟩ [0, 1, 2, 3, 4, 5, 6] rfl rfl ?_
  refine r_mmax 52 s_X2_155 dX2_years_52 ⟨by show 1 ≤ d + 7; omega, by show 0 + 13 ≤ 40 * (d + 7); omega⟩ ⟨Nat.le_of_ble_eq_true rfl, Nat.le_of_ble_eq_true rfl⟩ ?_
  refine r_ti (y := nI (sP S)) (max_pl hS.p1 hS.p16) ?_
  refine r_istore (lv2 := [_, _, _, _, _, none, none, none, none]) 55 dX2_years_55 (by decide) rfl rfl ?_
  refine r_iconst (v := 0) 57 dX2_years_57 (by decide) ?_
  refine r_ti (y := nI 0) (nI_0.symm) ?_
  refine r_istore (lv2 := [_, _, _, _, _, _, none, none, none]) 58 dX2_years_58 (by decide) rfl rfl ?_
  refine r_iload_n 60 dX2_years_60 rfl ?_
  refine r_istore (lv2 := [_, _, _, _, _, _, _, none, none]) 61 dX2_years_61 (by decide) rfl rfl ?_
  refine r_iconst (v := 0) 63 dX2_years_63 (by decide) ?_
  refine r_ti (y := nI 0) (nI_0.symm) ?_
  refine r_istore (lv2 := [_, _, _, _, _, _, _, _, none]) 64 dX2_years_64 (by decide) rfl rfl ?_
  exact lp_hyears1 hS (by omega) hN (N + 1) 0 (by omega) (by omega)
set_option maxRecDepth 100000 in
set_option maxHeartbeats 400000 in
theorem lp_hyears2 {G : jG} {d : Nat} {x q t ai b pa ql qh : Nat} {sg : Int32} {ov : Value} {S : qS} {tl th : Nat} (hS : wf S) {x0 N : Nat} (hx0 : x0 < 65537) (hN : N ≤ 99) : ∀ (n : Nat) (k : Nat), N + 1 ≤ k + n → k ≤ N → Rn G RX2 "years" cX2_years 9 (some .int) (jR (d + 7) 0 0) jX0 (jE G (fun v w => v = some (.int (nI (cnt (sqB (yrI S x0 N).2.1) 16))) ∧ ∃ T2 : qS, w = (hX x q t ai b pa sg ov :: (wS G q ql qh (S) ++ wS G t tl th (T2)))) 0 0) 0 0 66 [some (.ref x), some (.int (nI x0)), some (.int (nI N)), some (.int 2), some (.int (nI (sP S))), some (.int (nI (yrI S x0 k).2.2)), some (.int (nI (yrI S x0 k).1)), some (.int (nI k)), none] [] (hX x q t ai b pa sg ov :: (wS G q ql qh (S) ++ wS G t tl th ((yrI S x0 k).2.1))) := by
  intro n
  induction n with
  | zero => intros; omega
  | succ n ih =>
    intro k h1 h2
    have h16 := hS.p16
    have h1p := hS.p1
    have hy := yr_x (S := S) hx0 k
    have hpl : yrX (yrI S x0 k).1 % sP S < sP S := Nat.mod_lt _ (by omega)
    have hyw := yr_wf hS (x0 := x0) k
    have hyx : yrX (yrI S x0 k).1 < 65537 := Nat.mod_lt _ (by decide)
    refine r_iload 66 dX2_years_66 rfl ?_
    refine r_iload_n 68 dX2_years_68 rfl ?_
    refine r_icmp_geN 69 143 dX2_years_69 (by decide) (by omega) (by omega) (fun c_69 => ?_) (fun c_69 => ?_)
    · -- 69T
      obtain rfl : k = N := by omega
      refine r_iload_n 143 dX2_years_143 rfl ?_
      refine r_tableIn 144 180 dX2_years_144 (by decide) (by decide) rfl (by decide) ?_
      refine r_aload_n 180 dX2_years_180 rfl ?_
      refine r_get 181 f_X2_16 dX2_years_181 0 rfl rfl ?_
      refine r_callVD (ws2 := [_, _, _, _, _, _, _]) (wr := [_, _, _, _]) 184 s_X2_67 dX2_years_184 (q_squares) rfl rfl 0 rfl rfl rfl [4, 5, 6] [0, 1, 2, 3] rfl rfl rfl rfl (by decide) jRm_ok (Nat.le_of_ble_eq_true rfl) ⟨(Nat.le_of_ble_eq_true rfl), (Nat.le_of_ble_eq_true rfl)⟩ [0, 1, 2, 3, 4, 5, 6] rfl rfl ?_
      refine r_callSD (ws2 := [_, _, _, _, _, _, _]) (wr := [_, _, _, _, _, _, _]) 187 s_X2_70 dX2_years_187 (c_bitCount) rfl rfl [] [0, 1, 2, 3, 4, 5, 6] rfl rfl rfl rfl (by decide) jRm_ok (Nat.le_of_ble_eq_true rfl) ⟨(Nat.le_of_ble_eq_true rfl), (Nat.le_of_ble_eq_true rfl)⟩ [0, 1, 2, 3, 4, 5, 6] rfl rfl ?_
      exact r_iret 190 dX2_years_190 rfl rfl (Nat.le_of_ble_eq_true rfl) (Nat.le_of_ble_eq_true rfl) (⟨rfl, _, rfl⟩)
    · -- 69F
      refine r_bipush (v := 75) 72 dX2_years_72 (by decide) ?_
      refine r_iload 74 dX2_years_74 rfl ?_
      refine r_imul 76 dX2_years_76 ?_
      refine r_ti (y := nI (75 * (yrI S x0 k).1)) (pk_mul 75 _) ?_
      refine r_bipush (v := 74) 77 dX2_years_77 (by decide) ?_
      refine r_iadd 79 dX2_years_79 ?_
      refine r_ti (y := nI (75 * (yrI S x0 k).1 + 74)) (nI_add _ 74) ?_
      refine r_ldc 80 q_X2_203 dX2_years_80 ?_
      refine r_irem 82 dX2_years_82 (by decide) ?_
      refine r_ti (y := nI (yrX (yrI S x0 k).1)) (yr_step hy) ?_
      refine r_istore (lv2 := [_, _, _, _, _, _, _, _, none]) 83 dX2_years_83 (by decide) rfl rfl ?_
      refine r_iload 85 dX2_years_85 rfl ?_
      refine r_iload 87 dX2_years_87 rfl ?_
      refine r_irem 89 dX2_years_89 (fun z => absurd ((nI_z (by omega)).mp z) (by omega)) ?_
      refine r_ti (y := nI (yrX (yrI S x0 k).1 % sP S)) (pk_rem (by omega) (by omega) (by omega)) ?_
      refine r_istore (lv2 := [_, _, _, _, _, _, _, _, _]) 90 dX2_years_90 (by decide) rfl rfl ?_
      refine r_aload_n 92 dX2_years_92 rfl ?_
      refine r_get 93 f_X2_16 dX2_years_93 0 rfl rfl ?_
      refine r_iload 96 dX2_years_96 rfl ?_
      refine r_callVD (ws2 := [_, _, _, _, _, _, _]) (wr := [_, _, _, _]) 98 s_X2_119 dX2_years_98 (c_X1_hasSquare (S := (yrI S x0 k).2.1) (show yrX (yrI S x0 k).1 % sP S < 16 by omega)) rfl rfl 0 rfl rfl rfl [4, 5, 6] [0, 1, 2, 3] rfl rfl rfl rfl (by decide) jRm_ok (Nat.le_of_ble_eq_true rfl) ⟨(Nat.le_of_ble_eq_true rfl), (Nat.le_of_ble_eq_true rfl)⟩ [0, 1, 2, 3, 4, 5, 6] rfl rfl ?_
      refine r_if_eqB 101 117 dX2_years_101 (by decide) (fun c_101 => ?_) (fun c_101 => ?_)
      · -- 101T
        refine r_aload_n 117 dX2_years_117 rfl ?_
        refine r_get 118 f_X2_16 dX2_years_118 0 rfl rfl ?_
        refine r_iload 121 dX2_years_121 rfl ?_
        refine r_iload 123 dX2_years_123 rfl ?_
        refine r_bipush (v := 16) 125 dX2_years_125 (by decide) ?_
        refine r_idiv 127 dX2_years_127 (by decide) ?_
        refine r_ti (y := nI (yrX (yrI S x0 k).1 / 16)) (pk_div (d := 16) (by omega) (by decide) (by decide)) ?_
        refine r_iconst (v := 4) 128 dX2_years_128 (by decide) ?_
        refine r_irem 129 dX2_years_129 (by decide) ?_
        refine r_ti (y := nI (yrX (yrI S x0 k).1 / 16 % 4)) (pk_rem (d := 4) (by omega) (by decide) (by decide)) ?_
        refine r_callVD (ws2 := [_, _, _, _, _, _, _]) (wr := [_, _, _, _]) 130 s_X2_122 dX2_years_130 (q_bear2 hyw (by rw [yr_P]; exact hpl) (show yrX (yrI S x0 k).1 % sP S < 16 by omega) (Nat.mod_lt _ (by decide)) (by have h5 := hyw.f4 (yrX (yrI S x0 k).1 % sP S); have h6 : ¬ sF (yrI S x0 k).2.1 (yrX (yrI S x0 k).1 % sP S) < 4 := fun z => c_101 (sqB_iff.mpr z); omega)) rfl rfl 0 rfl rfl rfl [4, 5, 6] [0, 1, 2, 3] rfl rfl rfl rfl (by decide) jRm_ok (Nat.le_of_ble_eq_true rfl) ⟨(Nat.le_of_ble_eq_true rfl), (Nat.le_of_ble_eq_true rfl)⟩ [0, 1, 2, 3, 4, 5, 6] rfl rfl ?_
        refine r_pop 133 dX2_years_133 rfl ?_
        refine r_iinc (lv2 := [_, _, _, _, _, _, _, _, _]) 134 dX2_years_134 rfl (jinc) (by decide) rfl rfl ?_
        refine r_iinc (lv2 := [_, _, _, _, _, _, _, _, _]) 137 dX2_years_137 rfl (jinc) (by decide) rfl rfl ?_
        refine r_goto 140 66 dX2_years_140 (by decide) ?_
        refine r_drop (lv2 := [_, _, _, _, _, _, _, _, none]) 8 rfl ?_
        have hih := ih (k + 1) (by omega) (by omega)
        first
        | (rw [yrI_1 (sqB_iff.mp c_101)] at hih; exact hih)
        | (rw [yrI_2 (fun z => c_101 (sqB_iff.mpr z))] at hih; exact hih)
      · -- 101F
        refine r_aload_n 104 dX2_years_104 rfl ?_
        refine r_get 105 f_X2_16 dX2_years_105 0 rfl rfl ?_
        refine r_iload 108 dX2_years_108 rfl ?_
        refine r_callVD (ws2 := [_, _, _, _, _, _, _]) (wr := [_, _, _, _]) 110 s_X2_125 dX2_years_110 (q_bury2 hyw (show yrX (yrI S x0 k).1 % sP S < 16 by omega)) rfl rfl 0 rfl rfl rfl [4, 5, 6] [0, 1, 2, 3] rfl rfl rfl rfl (by decide) jRm_ok (Nat.le_of_ble_eq_true rfl) ⟨(Nat.le_of_ble_eq_true rfl), (Nat.le_of_ble_eq_true rfl)⟩ [0, 1, 2, 3, 4, 5, 6] rfl rfl ?_
        refine r_pop 113 dX2_years_113 rfl ?_
        refine r_goto 114 137 dX2_years_114 (by decide) ?_
        refine r_iinc (lv2 := [_, _, _, _, _, _, _, _, _]) 137 dX2_years_137 rfl (jinc) (by decide) rfl rfl ?_
        refine r_goto 140 66 dX2_years_140 (by decide) ?_
        refine r_drop (lv2 := [_, _, _, _, _, _, _, _, none]) 8 rfl ?_
        have hih := ih (k + 1) (by omega) (by omega)
        first
        | (rw [yrI_1 (sqB_iff.mp c_101)] at hih; exact hih)
        | (rw [yrI_2 (fun z => c_101 (sqB_iff.mpr z))] at hih; exact hih)
set_option maxRecDepth 100000 in
set_option maxHeartbeats 400000 in
theorem h_years2 {G : jG} {d : Nat} {x q t ai b pa ql qh : Nat} {sg : Int32} {ov : Value} {S T : qS} {tl th : Nat} (hS : wf S) {x0 N : Nat} (hx0 : x0 ≤ 9999) (hN1 : 1 ≤ N) (hN : N ≤ 99) : Ct G yX2_years cX2_years 9 (some .int) (d + 7) 0 0 [.ref x, .int (nI x0), .int (nI N), .int 2] (hX x q t ai b pa sg ov :: (wS G q ql qh (S) ++ wS G t tl th (T))) (fun v w => v = some (.int (nI (cnt (sqB (yrI S x0 N).2.1) 16))) ∧ ∃ T2 : qS, w = (hX x q t ai b pa sg ov :: (wS G q ql qh (S) ++ wS G t tl th (T2)))) := by
  refine ct_of (by decide) (Nat.le_of_ble_eq_true rfl) (own := RX2) (nm := "years") rfl rfl (lv := [some (.ref x), some (.int (nI x0)), some (.int (nI N)), some (.int 2), none, none, none, none, none]) rfl ?_
  refine r_iload_n 0 dX2_years_0 rfl ?_
  refine r_iconst (v := 0) 1 dX2_years_1 (by decide) ?_
  refine r_sipush (v := 9999) 2 dX2_years_2 (by decide) ?_
  refine r_callSD (ws2 := [_, _, _, _, _, _, _]) (wr := [_, _, _, _, _, _, _]) 5 s_X2_46 dX2_years_5 (c_isW (a := 0) (b := 9999) (le_nI hx0 (by decide))) rfl rfl [] [0, 1, 2, 3, 4, 5, 6] rfl rfl rfl rfl (by decide) jRm_ok (Nat.le_of_ble_eq_true rfl) ⟨(Nat.le_of_ble_eq_true rfl), (Nat.le_of_ble_eq_true rfl)⟩ [0, 1, 2, 3, 4, 5, 6] rfl rfl ?_
  refine r_if_eqF 8 30 dX2_years_8 (by decide) (by decide) ?_
  refine r_iload_n 11 dX2_years_11 rfl ?_
  refine r_iconst (v := 1) 12 dX2_years_12 (by decide) ?_
  refine r_bipush (v := 99) 13 dX2_years_13 (by decide) ?_
  refine r_callSD (ws2 := [_, _, _, _, _, _, _]) (wr := [_, _, _, _, _, _, _]) 15 s_X2_46 dX2_years_15 (c_isW (a := 1) (b := 99) ⟨nI_le (a := 1) hN1 (by omega), nI_le (b := 99) hN (by decide)⟩) rfl rfl [] [0, 1, 2, 3, 4, 5, 6] rfl rfl rfl rfl (by decide) jRm_ok (Nat.le_of_ble_eq_true rfl) ⟨(Nat.le_of_ble_eq_true rfl), (Nat.le_of_ble_eq_true rfl)⟩ [0, 1, 2, 3, 4, 5, 6] rfl rfl ?_
  refine r_if_eqF 18 30 dX2_years_18 (by decide) (by decide) ?_
  refine r_iload_n 21 dX2_years_21 rfl ?_
  refine r_iconst (v := 0) 22 dX2_years_22 (by decide) ?_
  refine r_iconst (v := 3) 23 dX2_years_23 (by decide) ?_
  refine r_callSD (ws2 := [_, _, _, _, _, _, _]) (wr := [_, _, _, _, _, _, _]) 24 s_X2_46 dX2_years_24 (c_isW (by decide)) rfl rfl [] [0, 1, 2, 3, 4, 5, 6] rfl rfl rfl rfl (by decide) jRm_ok (Nat.le_of_ble_eq_true rfl) ⟨(Nat.le_of_ble_eq_true rfl), (Nat.le_of_ble_eq_true rfl)⟩ [0, 1, 2, 3, 4, 5, 6] rfl rfl ?_
  refine r_if_neT 27 33 dX2_years_27 (by decide) (by decide) ?_
  refine r_aload_n 33 dX2_years_33 rfl ?_
  refine r_get 34 f_X2_16 dX2_years_34 0 rfl rfl ?_
  refine r_aload_n 37 dX2_years_37 rfl ?_
  refine r_get 38 f_X2_10 dX2_years_38 0 rfl rfl ?_
  refine r_callVD (ws2 := [_, _, _, _, _, _, _]) (wr := [_]) 41 s_X2_143 dX2_years_41 (q_become) rfl rfl 0 rfl rfl rfl [4, 5, 6, 1, 2, 3] [0] rfl rfl rfl rfl (by decide) jRm_ok (Nat.le_of_ble_eq_true rfl) ⟨(Nat.le_of_ble_eq_true rfl), (Nat.le_of_ble_eq_true rfl)⟩ [0, 4, 5, 6, 1, 2, 3] rfl rfl ?_
  refine r_iconst (v := 1) 44 dX2_years_44 (by decide) ?_
  refine r_aload_n 45 dX2_years_45 rfl ?_
  refine r_get 46 f_X2_16 dX2_years_46 0 rfl rfl ?_
  refine r_callVD (ws2 := [_, _, _, _, _, _, _]) (wr := [_, _, _, _]) 49 s_X2_50 dX2_years_49 (q_places (S := S)) rfl rfl 0 rfl rfl rfl [4, 5, 6] [0, 1, 2, 3] rfl rfl rfl rfl (by decide) jRm_ok (Nat.le_of_ble_eq_true rfl) ⟨(Nat.le_of_ble_eq_true rfl), (Nat.le_of_ble_eq_true rfl)⟩ [0, 1, 2, 3, 4, 5, 6] rfl rfl ?_
  refine r_mmax 52 s_X2_155 dX2_years_52 ⟨by show 1 ≤ d + 7; omega, by show 0 + 13 ≤ 40 * (d + 7); omega⟩ ⟨Nat.le_of_ble_eq_true rfl, Nat.le_of_ble_eq_true rfl⟩ ?_
  refine r_ti (y := nI (sP S)) (max_pl hS.p1 hS.p16) ?_
  refine r_istore (lv2 := [_, _, _, _, _, none, none, none, none]) 55 dX2_years_55 (by decide) rfl rfl ?_
  refine r_iconst (v := 0) 57 dX2_years_57 (by decide) ?_
  refine r_ti (y := nI 0) (nI_0.symm) ?_
  refine r_istore (lv2 := [_, _, _, _, _, _, none, none, none]) 58 dX2_years_58 (by decide) rfl rfl ?_
  refine r_iload_n 60 dX2_years_60 rfl ?_
  refine r_istore (lv2 := [_, _, _, _, _, _, _, none, none]) 61 dX2_years_61 (by decide) rfl rfl ?_
  refine r_iconst (v := 0) 63 dX2_years_63 (by decide) ?_
  refine r_ti (y := nI 0) (nI_0.symm) ?_
  refine r_istore (lv2 := [_, _, _, _, _, _, _, _, none]) 64 dX2_years_64 (by decide) rfl rfl ?_
  exact lp_hyears2 hS (by omega) hN (N + 1) 0 (by omega) (by omega)
set_option maxRecDepth 100000 in
set_option maxHeartbeats 400000 in
theorem lp_hyears3 {G : jG} {d : Nat} {x q t ai b pa ql qh : Nat} {sg : Int32} {ov : Value} {S : qS} {tl th : Nat} (hS : wf S) {x0 N : Nat} (hx0 : x0 < 65537) (hN : N ≤ 99) : ∀ (n : Nat) (k : Nat), N + 1 ≤ k + n → k ≤ N → Rn G RX2 "years" cX2_years 9 (some .int) (jR (d + 7) 0 0) jX0 (jE G (fun v w => v = some (.int (nI (cpN (yrI S x0 N).2.1 16 (sqB (yrI S x0 N).2.1)))) ∧ ∃ T2 : qS, w = (hX x q t ai b pa sg ov :: (wS G q ql qh (S) ++ wS G t tl th (T2)))) 0 0) 0 0 66 [some (.ref x), some (.int (nI x0)), some (.int (nI N)), some (.int 3), some (.int (nI (sP S))), some (.int (nI (yrI S x0 k).2.2)), some (.int (nI (yrI S x0 k).1)), some (.int (nI k)), none] [] (hX x q t ai b pa sg ov :: (wS G q ql qh (S) ++ wS G t tl th ((yrI S x0 k).2.1))) := by
  intro n
  induction n with
  | zero => intros; omega
  | succ n ih =>
    intro k h1 h2
    have h16 := hS.p16
    have h1p := hS.p1
    have hy := yr_x (S := S) hx0 k
    have hpl : yrX (yrI S x0 k).1 % sP S < sP S := Nat.mod_lt _ (by omega)
    have hyw := yr_wf hS (x0 := x0) k
    have hyx : yrX (yrI S x0 k).1 < 65537 := Nat.mod_lt _ (by decide)
    refine r_iload 66 dX2_years_66 rfl ?_
    refine r_iload_n 68 dX2_years_68 rfl ?_
    refine r_icmp_geN 69 143 dX2_years_69 (by decide) (by omega) (by omega) (fun c_69 => ?_) (fun c_69 => ?_)
    · -- 69T
      obtain rfl : k = N := by omega
      refine r_iload_n 143 dX2_years_143 rfl ?_
      refine r_tableOut 144 191 dX2_years_144 (by decide) (by decide) ?_
      refine r_aload_n 191 dX2_years_191 rfl ?_
      refine r_get 192 f_X2_16 dX2_years_192 0 rfl rfl ?_
      refine r_aload_n 195 dX2_years_195 rfl ?_
      refine r_get 196 f_X2_16 dX2_years_196 0 rfl rfl ?_
      refine r_callVD (ws2 := [_, _, _, _, _, _, _]) (wr := [_, _, _, _]) 199 s_X2_67 dX2_years_199 (q_squares) rfl rfl 0 rfl rfl rfl [4, 5, 6] [0, 1, 2, 3] rfl rfl rfl rfl (by decide) jRm_ok (Nat.le_of_ble_eq_true rfl) ⟨(Nat.le_of_ble_eq_true rfl), (Nat.le_of_ble_eq_true rfl)⟩ [0, 1, 2, 3, 4, 5, 6] rfl rfl ?_
      refine r_callVD (ws2 := [_, _, _, _, _, _, _]) (wr := [_, _, _, _]) 202 s_X2_128 dX2_years_202 (c_X1_countPieces hyw) rfl rfl 0 rfl rfl rfl [4, 5, 6] [0, 1, 2, 3] rfl rfl rfl rfl (by decide) jRm_ok (Nat.le_of_ble_eq_true rfl) ⟨(Nat.le_of_ble_eq_true rfl), (Nat.le_of_ble_eq_true rfl)⟩ [0, 1, 2, 3, 4, 5, 6] rfl rfl ?_
      exact r_iret 205 dX2_years_205 rfl rfl (Nat.le_of_ble_eq_true rfl) (Nat.le_of_ble_eq_true rfl) (⟨rfl, _, rfl⟩)
    · -- 69F
      refine r_bipush (v := 75) 72 dX2_years_72 (by decide) ?_
      refine r_iload 74 dX2_years_74 rfl ?_
      refine r_imul 76 dX2_years_76 ?_
      refine r_ti (y := nI (75 * (yrI S x0 k).1)) (pk_mul 75 _) ?_
      refine r_bipush (v := 74) 77 dX2_years_77 (by decide) ?_
      refine r_iadd 79 dX2_years_79 ?_
      refine r_ti (y := nI (75 * (yrI S x0 k).1 + 74)) (nI_add _ 74) ?_
      refine r_ldc 80 q_X2_203 dX2_years_80 ?_
      refine r_irem 82 dX2_years_82 (by decide) ?_
      refine r_ti (y := nI (yrX (yrI S x0 k).1)) (yr_step hy) ?_
      refine r_istore (lv2 := [_, _, _, _, _, _, _, _, none]) 83 dX2_years_83 (by decide) rfl rfl ?_
      refine r_iload 85 dX2_years_85 rfl ?_
      refine r_iload 87 dX2_years_87 rfl ?_
      refine r_irem 89 dX2_years_89 (fun z => absurd ((nI_z (by omega)).mp z) (by omega)) ?_
      refine r_ti (y := nI (yrX (yrI S x0 k).1 % sP S)) (pk_rem (by omega) (by omega) (by omega)) ?_
      refine r_istore (lv2 := [_, _, _, _, _, _, _, _, _]) 90 dX2_years_90 (by decide) rfl rfl ?_
      refine r_aload_n 92 dX2_years_92 rfl ?_
      refine r_get 93 f_X2_16 dX2_years_93 0 rfl rfl ?_
      refine r_iload 96 dX2_years_96 rfl ?_
      refine r_callVD (ws2 := [_, _, _, _, _, _, _]) (wr := [_, _, _, _]) 98 s_X2_119 dX2_years_98 (c_X1_hasSquare (S := (yrI S x0 k).2.1) (show yrX (yrI S x0 k).1 % sP S < 16 by omega)) rfl rfl 0 rfl rfl rfl [4, 5, 6] [0, 1, 2, 3] rfl rfl rfl rfl (by decide) jRm_ok (Nat.le_of_ble_eq_true rfl) ⟨(Nat.le_of_ble_eq_true rfl), (Nat.le_of_ble_eq_true rfl)⟩ [0, 1, 2, 3, 4, 5, 6] rfl rfl ?_
      refine r_if_eqB 101 117 dX2_years_101 (by decide) (fun c_101 => ?_) (fun c_101 => ?_)
      · -- 101T
        refine r_aload_n 117 dX2_years_117 rfl ?_
        refine r_get 118 f_X2_16 dX2_years_118 0 rfl rfl ?_
        refine r_iload 121 dX2_years_121 rfl ?_
        refine r_iload 123 dX2_years_123 rfl ?_
        refine r_bipush (v := 16) 125 dX2_years_125 (by decide) ?_
        refine r_idiv 127 dX2_years_127 (by decide) ?_
        refine r_ti (y := nI (yrX (yrI S x0 k).1 / 16)) (pk_div (d := 16) (by omega) (by decide) (by decide)) ?_
        refine r_iconst (v := 4) 128 dX2_years_128 (by decide) ?_
        refine r_irem 129 dX2_years_129 (by decide) ?_
        refine r_ti (y := nI (yrX (yrI S x0 k).1 / 16 % 4)) (pk_rem (d := 4) (by omega) (by decide) (by decide)) ?_
        refine r_callVD (ws2 := [_, _, _, _, _, _, _]) (wr := [_, _, _, _]) 130 s_X2_122 dX2_years_130 (q_bear2 hyw (by rw [yr_P]; exact hpl) (show yrX (yrI S x0 k).1 % sP S < 16 by omega) (Nat.mod_lt _ (by decide)) (by have h5 := hyw.f4 (yrX (yrI S x0 k).1 % sP S); have h6 : ¬ sF (yrI S x0 k).2.1 (yrX (yrI S x0 k).1 % sP S) < 4 := fun z => c_101 (sqB_iff.mpr z); omega)) rfl rfl 0 rfl rfl rfl [4, 5, 6] [0, 1, 2, 3] rfl rfl rfl rfl (by decide) jRm_ok (Nat.le_of_ble_eq_true rfl) ⟨(Nat.le_of_ble_eq_true rfl), (Nat.le_of_ble_eq_true rfl)⟩ [0, 1, 2, 3, 4, 5, 6] rfl rfl ?_
        refine r_pop 133 dX2_years_133 rfl ?_
        refine r_iinc (lv2 := [_, _, _, _, _, _, _, _, _]) 134 dX2_years_134 rfl (jinc) (by decide) rfl rfl ?_
        refine r_iinc (lv2 := [_, _, _, _, _, _, _, _, _]) 137 dX2_years_137 rfl (jinc) (by decide) rfl rfl ?_
        refine r_goto 140 66 dX2_years_140 (by decide) ?_
        refine r_drop (lv2 := [_, _, _, _, _, _, _, _, none]) 8 rfl ?_
        have hih := ih (k + 1) (by omega) (by omega)
        first
        | (rw [yrI_1 (sqB_iff.mp c_101)] at hih; exact hih)
        | (rw [yrI_2 (fun z => c_101 (sqB_iff.mpr z))] at hih; exact hih)
      · -- 101F
        refine r_aload_n 104 dX2_years_104 rfl ?_
        refine r_get 105 f_X2_16 dX2_years_105 0 rfl rfl ?_
        refine r_iload 108 dX2_years_108 rfl ?_
        refine r_callVD (ws2 := [_, _, _, _, _, _, _]) (wr := [_, _, _, _]) 110 s_X2_125 dX2_years_110 (q_bury2 hyw (show yrX (yrI S x0 k).1 % sP S < 16 by omega)) rfl rfl 0 rfl rfl rfl [4, 5, 6] [0, 1, 2, 3] rfl rfl rfl rfl (by decide) jRm_ok (Nat.le_of_ble_eq_true rfl) ⟨(Nat.le_of_ble_eq_true rfl), (Nat.le_of_ble_eq_true rfl)⟩ [0, 1, 2, 3, 4, 5, 6] rfl rfl ?_
        refine r_pop 113 dX2_years_113 rfl ?_
        refine r_goto 114 137 dX2_years_114 (by decide) ?_
        refine r_iinc (lv2 := [_, _, _, _, _, _, _, _, _]) 137 dX2_years_137 rfl (jinc) (by decide) rfl rfl ?_
        refine r_goto 140 66 dX2_years_140 (by decide) ?_
        refine r_drop (lv2 := [_, _, _, _, _, _, _, _, none]) 8 rfl ?_
        have hih := ih (k + 1) (by omega) (by omega)
        first
        | (rw [yrI_1 (sqB_iff.mp c_101)] at hih; exact hih)
        | (rw [yrI_2 (fun z => c_101 (sqB_iff.mpr z))] at hih; exact hih)
set_option maxRecDepth 100000 in
set_option maxHeartbeats 400000 in
theorem h_years3 {G : jG} {d : Nat} {x q t ai b pa ql qh : Nat} {sg : Int32} {ov : Value} {S T : qS} {tl th : Nat} (hS : wf S) {x0 N : Nat} (hx0 : x0 ≤ 9999) (hN1 : 1 ≤ N) (hN : N ≤ 99) : Ct G yX2_years cX2_years 9 (some .int) (d + 7) 0 0 [.ref x, .int (nI x0), .int (nI N), .int 3] (hX x q t ai b pa sg ov :: (wS G q ql qh (S) ++ wS G t tl th (T))) (fun v w => v = some (.int (nI (cpN (yrI S x0 N).2.1 16 (sqB (yrI S x0 N).2.1)))) ∧ ∃ T2 : qS, w = (hX x q t ai b pa sg ov :: (wS G q ql qh (S) ++ wS G t tl th (T2)))) := by
  refine ct_of (by decide) (Nat.le_of_ble_eq_true rfl) (own := RX2) (nm := "years") rfl rfl (lv := [some (.ref x), some (.int (nI x0)), some (.int (nI N)), some (.int 3), none, none, none, none, none]) rfl ?_
  refine r_iload_n 0 dX2_years_0 rfl ?_
  refine r_iconst (v := 0) 1 dX2_years_1 (by decide) ?_
  refine r_sipush (v := 9999) 2 dX2_years_2 (by decide) ?_
  refine r_callSD (ws2 := [_, _, _, _, _, _, _]) (wr := [_, _, _, _, _, _, _]) 5 s_X2_46 dX2_years_5 (c_isW (a := 0) (b := 9999) (le_nI hx0 (by decide))) rfl rfl [] [0, 1, 2, 3, 4, 5, 6] rfl rfl rfl rfl (by decide) jRm_ok (Nat.le_of_ble_eq_true rfl) ⟨(Nat.le_of_ble_eq_true rfl), (Nat.le_of_ble_eq_true rfl)⟩ [0, 1, 2, 3, 4, 5, 6] rfl rfl ?_
  refine r_if_eqF 8 30 dX2_years_8 (by decide) (by decide) ?_
  refine r_iload_n 11 dX2_years_11 rfl ?_
  refine r_iconst (v := 1) 12 dX2_years_12 (by decide) ?_
  refine r_bipush (v := 99) 13 dX2_years_13 (by decide) ?_
  refine r_callSD (ws2 := [_, _, _, _, _, _, _]) (wr := [_, _, _, _, _, _, _]) 15 s_X2_46 dX2_years_15 (c_isW (a := 1) (b := 99) ⟨nI_le (a := 1) hN1 (by omega), nI_le (b := 99) hN (by decide)⟩) rfl rfl [] [0, 1, 2, 3, 4, 5, 6] rfl rfl rfl rfl (by decide) jRm_ok (Nat.le_of_ble_eq_true rfl) ⟨(Nat.le_of_ble_eq_true rfl), (Nat.le_of_ble_eq_true rfl)⟩ [0, 1, 2, 3, 4, 5, 6] rfl rfl ?_
  refine r_if_eqF 18 30 dX2_years_18 (by decide) (by decide) ?_
  refine r_iload_n 21 dX2_years_21 rfl ?_
  refine r_iconst (v := 0) 22 dX2_years_22 (by decide) ?_
  refine r_iconst (v := 3) 23 dX2_years_23 (by decide) ?_
  refine r_callSD (ws2 := [_, _, _, _, _, _, _]) (wr := [_, _, _, _, _, _, _]) 24 s_X2_46 dX2_years_24 (c_isW (by decide)) rfl rfl [] [0, 1, 2, 3, 4, 5, 6] rfl rfl rfl rfl (by decide) jRm_ok (Nat.le_of_ble_eq_true rfl) ⟨(Nat.le_of_ble_eq_true rfl), (Nat.le_of_ble_eq_true rfl)⟩ [0, 1, 2, 3, 4, 5, 6] rfl rfl ?_
  refine r_if_neT 27 33 dX2_years_27 (by decide) (by decide) ?_
  refine r_aload_n 33 dX2_years_33 rfl ?_
  refine r_get 34 f_X2_16 dX2_years_34 0 rfl rfl ?_
  refine r_aload_n 37 dX2_years_37 rfl ?_
  refine r_get 38 f_X2_10 dX2_years_38 0 rfl rfl ?_
  refine r_callVD (ws2 := [_, _, _, _, _, _, _]) (wr := [_]) 41 s_X2_143 dX2_years_41 (q_become) rfl rfl 0 rfl rfl rfl [4, 5, 6, 1, 2, 3] [0] rfl rfl rfl rfl (by decide) jRm_ok (Nat.le_of_ble_eq_true rfl) ⟨(Nat.le_of_ble_eq_true rfl), (Nat.le_of_ble_eq_true rfl)⟩ [0, 4, 5, 6, 1, 2, 3] rfl rfl ?_
  refine r_iconst (v := 1) 44 dX2_years_44 (by decide) ?_
  refine r_aload_n 45 dX2_years_45 rfl ?_
  refine r_get 46 f_X2_16 dX2_years_46 0 rfl rfl ?_
  refine r_callVD (ws2 := [_, _, _, _, _, _, _]) (wr := [_, _, _, _]) 49 s_X2_50 dX2_years_49 (q_places (S := S)) rfl rfl 0 rfl rfl rfl [4, 5, 6] [0, 1, 2, 3] rfl rfl rfl rfl (by decide) jRm_ok (Nat.le_of_ble_eq_true rfl) ⟨(Nat.le_of_ble_eq_true rfl), (Nat.le_of_ble_eq_true rfl)⟩ [0, 1, 2, 3, 4, 5, 6] rfl rfl ?_
  refine r_mmax 52 s_X2_155 dX2_years_52 ⟨by show 1 ≤ d + 7; omega, by show 0 + 13 ≤ 40 * (d + 7); omega⟩ ⟨Nat.le_of_ble_eq_true rfl, Nat.le_of_ble_eq_true rfl⟩ ?_
  refine r_ti (y := nI (sP S)) (max_pl hS.p1 hS.p16) ?_
  refine r_istore (lv2 := [_, _, _, _, _, none, none, none, none]) 55 dX2_years_55 (by decide) rfl rfl ?_
  refine r_iconst (v := 0) 57 dX2_years_57 (by decide) ?_
  refine r_ti (y := nI 0) (nI_0.symm) ?_
  refine r_istore (lv2 := [_, _, _, _, _, _, none, none, none]) 58 dX2_years_58 (by decide) rfl rfl ?_
  refine r_iload_n 60 dX2_years_60 rfl ?_
  refine r_istore (lv2 := [_, _, _, _, _, _, _, none, none]) 61 dX2_years_61 (by decide) rfl rfl ?_
  refine r_iconst (v := 0) 63 dX2_years_63 (by decide) ?_
  refine r_ti (y := nI 0) (nI_0.symm) ?_
  refine r_istore (lv2 := [_, _, _, _, _, _, _, _, none]) 64 dX2_years_64 (by decide) rfl rfl ?_
  exact lp_hyears3 hS (by omega) hN (N + 1) 0 (by omega) (by omega)
set_option maxRecDepth 100000 in
set_option maxHeartbeats 400000 in
theorem h_yearsX {G : jG} {d : Nat} {x q t ai b pa ql qh : Nat} {sg : Int32} {ov : Value} {S : qS} {u v w : Int32} (h : ¬ ((0 ≤ u ∧ u ≤ 9999) ∧ (1 ≤ v ∧ v ≤ 99) ∧ (0 ≤ w ∧ w ≤ 3))) : Ct G yX2_years cX2_years 9 (some .int) (d + 7) 0 0 [.ref x, .int u, .int v, .int w] (hX x q t ai b pa sg ov :: (wS G q ql qh (S))) (jD (some (.int (-2))) (hX x q t ai b pa sg ov :: (wS G q ql qh (S)))) := by
  refine ct_of (by decide) (Nat.le_of_ble_eq_true rfl) (own := RX2) (nm := "years") rfl rfl (lv := [some (.ref x), some (.int u), some (.int v), some (.int w), none, none, none, none, none]) rfl ?_
  refine r_iload_n 0 dX2_years_0 rfl ?_
  refine r_iconst (v := 0) 1 dX2_years_1 (by decide) ?_
  refine r_sipush (v := 9999) 2 dX2_years_2 (by decide) ?_
  refine r_callSD (ws2 := [_, _, _, _]) (wr := [_, _, _, _]) 5 s_X2_46 dX2_years_5 (c_X2_isWithin) rfl rfl [] [0, 1, 2, 3] rfl rfl rfl rfl (by decide) jRm_ok (Nat.le_of_ble_eq_true rfl) ⟨(Nat.le_of_ble_eq_true rfl), (Nat.le_of_ble_eq_true rfl)⟩ [0, 1, 2, 3] rfl rfl ?_
  refine r_if_eqB 8 30 dX2_years_8 (by decide) (fun c_8 => ?_) (fun c_8 => ?_)
  · -- 8T
    refine r_bipush (v := -2) 30 dX2_years_30 (by decide) ?_
    exact r_iret 32 dX2_years_32 rfl rfl (Nat.le_of_ble_eq_true rfl) (Nat.le_of_ble_eq_true rfl) (jd rfl)
  · -- 8F
    refine r_iload_n 11 dX2_years_11 rfl ?_
    refine r_iconst (v := 1) 12 dX2_years_12 (by decide) ?_
    refine r_bipush (v := 99) 13 dX2_years_13 (by decide) ?_
    refine r_callSD (ws2 := [_, _, _, _]) (wr := [_, _, _, _]) 15 s_X2_46 dX2_years_15 (c_X2_isWithin) rfl rfl [] [0, 1, 2, 3] rfl rfl rfl rfl (by decide) jRm_ok (Nat.le_of_ble_eq_true rfl) ⟨(Nat.le_of_ble_eq_true rfl), (Nat.le_of_ble_eq_true rfl)⟩ [0, 1, 2, 3] rfl rfl ?_
    refine r_if_eqB 18 30 dX2_years_18 (by decide) (fun c_18 => ?_) (fun c_18 => ?_)
    · -- 18T
      refine r_bipush (v := -2) 30 dX2_years_30 (by decide) ?_
      exact r_iret 32 dX2_years_32 rfl rfl (Nat.le_of_ble_eq_true rfl) (Nat.le_of_ble_eq_true rfl) (jd rfl)
    · -- 18F
      refine r_iload_n 21 dX2_years_21 rfl ?_
      refine r_iconst (v := 0) 22 dX2_years_22 (by decide) ?_
      refine r_iconst (v := 3) 23 dX2_years_23 (by decide) ?_
      refine r_callSD (ws2 := [_, _, _, _]) (wr := [_, _, _, _]) 24 s_X2_46 dX2_years_24 (c_X2_isWithin) rfl rfl [] [0, 1, 2, 3] rfl rfl rfl rfl (by decide) jRm_ok (Nat.le_of_ble_eq_true rfl) ⟨(Nat.le_of_ble_eq_true rfl), (Nat.le_of_ble_eq_true rfl)⟩ [0, 1, 2, 3] rfl rfl ?_
      refine r_if_neB 27 33 dX2_years_27 (by decide) (fun c_27 => ?_) (fun c_27 => ?_)
      · -- 27T
        exact absurd ⟨c_8, c_18, c_27⟩ h
      · -- 27F
        refine r_bipush (v := -2) 30 dX2_years_30 (by decide) ?_
        exact r_iret 32 dX2_years_32 rfl rfl (Nat.le_of_ble_eq_true rfl) (Nat.le_of_ble_eq_true rfl) (jd rfl)
