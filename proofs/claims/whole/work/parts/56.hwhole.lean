def zS (S : qS) : qS := sSetW S (fun _ _ => false)
def loN (S : qS) : Nat := if sO S < sK S then sO S else sK S
def hiN (S : qS) : Nat := if sK S < sO S then sO S else sK S
def hw1 (S : qS) (i : Int32) : qS × (Nat × Int32) := jaS (zS S) (loN S) 0 i (2 * sP (zS S))
def hw2 (S : qS) (i : Int32) : qS × (Nat × Int32) := jaS (hw1 S i).1 (hiN S) (csN (hw1 S i).1) i (2 * sP (hw1 S i).1)
def whC (S : qS) (i : Int32) : Int32 := if cpN (hw2 S i).1 16 (sqB (hw2 S i).1) = 1 then (if i = -1 then nI (kiN (hw2 S i).1 4) * nI (sK (hw2 S i).1) + (nI (csN (hw2 S i).1) - nI (kiN (hw2 S i).1 4)) * nI (sO (hw2 S i).1) else if (hw1 S i).2.2 = -6 then (hw2 S i).2.2 else (hw1 S i).2.2) else -6
theorem wf_z {S : qS} (hS : wf S) : wf (zS S) := ⟨hS.1, hS.2.1, hS.2.2.1, hS.2.2.2.1, hS.2.2.2.2.1, fun _ _ => rfl, fun _ _ h => Bool.noConfusion (show false = true from h), hS.esym, fun _ _ => hS.e4⟩
theorem z_rt (S : qS) : mI (rtB (zS S)) = 0 := mI_eq0.mpr (fun _ _ => rfl)
theorem z_dn (S : qS) : mI (dnB (zS S)) = 0 := mI_eq0.mpr (fun _ _ => rfl)
theorem lo_m {S : qS} (hS : wf S) : (if nI (sO S) < nI (sK S) then nI (sO S) else nI (sK S)) = nI (loN S) := by
  have := hS.kon
  unfold loN
  by_cases h : sO S < sK S
  · rw [if_pos h, if_pos ((nI_ltI (by omega) (by omega)).mpr h)]
  · rw [if_neg h, if_neg (fun z => h ((nI_ltI (by omega) (by omega)).mp z))]
theorem hi_m {S : qS} (hS : wf S) : (if nI (sK S) < nI (sO S) then nI (sO S) else nI (sK S)) = nI (hiN S) := by
  have := hS.kon
  unfold hiN
  by_cases h : sK S < sO S
  · rw [if_pos h, if_pos ((nI_ltI (by omega) (by omega)).mpr h)]
  · rw [if_neg h, if_neg (fun z => h ((nI_ltI (by omega) (by omega)).mp z))]
set_option maxRecDepth 100000 in
set_option maxHeartbeats 400000 in
theorem h_whole {G : jG} {d : Nat} {x q t ai b pa ql qh : Nat} {sg : Int32} {ov : Value} {S T : qS} {tl th : Nat} (hS : wf S) {i : Int32} : Ct G yX2_whole cX2_whole 7 (some .int) (d + 10) 0 0 [.ref x, .int i] (hX x q t ai b pa sg ov :: (wS G q ql qh (S) ++ wS G t tl th (T))) (fun v w => v = some (.int (whC S i)) ∧ ∃ T2 : qS, w = (hX x q t ai b pa sg ov :: (wS G q ql qh (S) ++ wS G t tl th (T2)))) := by
  refine ct_of (by decide) (Nat.le_of_ble_eq_true rfl) (own := RX2) (nm := "whole") rfl rfl (lv := [some (.ref x), some (.int i), none, none, none, none, none]) rfl ?_
  have hko := hS.kon
  have hlo : loN S < 1000 := by unfold loN; split <;> omega
  have hhi : hiN S < 1000 := by unfold hiN; split <;> omega
  have hw1w : wf (hw1 S i).1 := ja_wf (wf_z hS) _
  have hw2w : wf (hw2 S i).1 := ja_wf hw1w _
  have hcs : csN (hw1 S i).1 < 1000 := by have h1 := cnt_le (rtB (hw1 S i).1) 16; have h2 := cnt_le (dnB (hw1 S i).1) 16; unfold csN; omega
  refine r_aload_n 0 dX2_whole_0 rfl ?_
  refine r_get 1 f_X2_16 dX2_whole_1 0 rfl rfl ?_
  refine r_aload_n 4 dX2_whole_4 rfl ?_
  refine r_get 5 f_X2_10 dX2_whole_5 0 rfl rfl ?_
  refine r_callVD (ws2 := [_, _, _, _, _, _, _]) (wr := [_]) 8 s_X2_143 dX2_whole_8 (q_become) rfl rfl 0 rfl rfl rfl [4, 5, 6, 1, 2, 3] [0] rfl rfl rfl rfl (by decide) jRm_ok (Nat.le_of_ble_eq_true rfl) ⟨(Nat.le_of_ble_eq_true rfl), (Nat.le_of_ble_eq_true rfl)⟩ [0, 4, 5, 6, 1, 2, 3] rfl rfl ?_
  refine r_aload_n 11 dX2_whole_11 rfl ?_
  refine r_get 12 f_X2_16 dX2_whole_12 0 rfl rfl ?_
  refine r_callVD (ws2 := [_, _, _, _, _, _, _]) (wr := [_, _, _, _]) 15 s_X2_147 dX2_whole_15 (c_X1_loosenAll) rfl rfl 0 rfl rfl rfl [4, 5, 6] [0, 1, 2, 3] rfl rfl rfl rfl (by decide) jRm_ok (Nat.le_of_ble_eq_true rfl) ⟨(Nat.le_of_ble_eq_true rfl), (Nat.le_of_ble_eq_true rfl)⟩ [0, 1, 2, 3, 4, 5, 6] rfl rfl ?_
  refine r_ws (ws2 := (hX x q t ai b pa sg ov :: (wS G q ql qh (S) ++ wS G t tl th (zS S)))) ?_ ?_
  · have e1 := z_rt S
    have e2 := z_dn S
    unfold wS
    rw [e1, e2]
    rfl
  refine r_aload_n 18 dX2_whole_18 rfl ?_
  refine r_get 19 f_X2_10 dX2_whole_19 0 rfl rfl ?_
  refine r_get 22 f_X2_90 dX2_whole_22 1 rfl rfl ?_
  refine r_aload_n 25 dX2_whole_25 rfl ?_
  refine r_get 26 f_X2_10 dX2_whole_26 0 rfl rfl ?_
  refine r_get 29 f_X2_93 dX2_whole_29 1 rfl rfl ?_
  refine r_mmin 32 s_X2_150 dX2_whole_32 ⟨by show 1 ≤ d + 10; omega, by show 0 + 13 ≤ 40 * (d + 10); omega⟩ ⟨Nat.le_of_ble_eq_true rfl, Nat.le_of_ble_eq_true rfl⟩ ?_
  refine r_ti (y := nI (loN S)) (lo_m hS) ?_
  refine r_istore_n (lv2 := [_, _, _, none, none, none, none]) 35 dX2_whole_35 (by decide) rfl rfl ?_
  refine r_aload_n 36 dX2_whole_36 rfl ?_
  refine r_get 37 f_X2_10 dX2_whole_37 0 rfl rfl ?_
  refine r_get 40 f_X2_90 dX2_whole_40 1 rfl rfl ?_
  refine r_aload_n 43 dX2_whole_43 rfl ?_
  refine r_get 44 f_X2_10 dX2_whole_44 0 rfl rfl ?_
  refine r_get 47 f_X2_93 dX2_whole_47 1 rfl rfl ?_
  refine r_mmax 50 s_X2_155 dX2_whole_50 ⟨by show 1 ≤ d + 10; omega, by show 0 + 13 ≤ 40 * (d + 10); omega⟩ ⟨Nat.le_of_ble_eq_true rfl, Nat.le_of_ble_eq_true rfl⟩ ?_
  refine r_ti (y := nI (hiN S)) (hi_m hS) ?_
  refine r_istore_n (lv2 := [_, _, _, _, none, none, none]) 53 dX2_whole_53 (by decide) rfl rfl ?_
  refine r_aload_n 54 dX2_whole_54 rfl ?_
  refine r_iload_n 55 dX2_whole_55 rfl ?_
  refine r_iconst (v := 0) 56 dX2_whole_56 (by decide) ?_
  refine r_ti (y := nI 0) (nI_0.symm) ?_
  refine r_iload_n 57 dX2_whole_57 rfl ?_
  refine r_callVD (ws2 := [_, _, _, _, _, _, _]) (wr := []) 58 s_X2_158 dX2_whole_58 (h_joinAll (T := zS S) (wf_z hS) (thr := loN S) (j0 := 0) (i := i) hlo (by decide)) rfl rfl 0 rfl rfl rfl [0, 1, 2, 3, 4, 5, 6] [] rfl rfl rfl rfl (by decide) jRm_ok (Nat.le_of_ble_eq_true rfl) ⟨(Nat.le_of_ble_eq_true rfl), (Nat.le_of_ble_eq_true rfl)⟩ [0, 1, 2, 3, 4, 5, 6] rfl rfl ?_
  refine r_istore (lv2 := [_, _, _, _, _, none, none]) 61 dX2_whole_61 (by decide) rfl rfl ?_
  refine r_aload_n 63 dX2_whole_63 rfl ?_
  refine r_get 64 f_X2_16 dX2_whole_64 0 rfl rfl ?_
  refine r_callVD (ws2 := [_, _, _, _, _, _, _]) (wr := [_, _, _, _]) 67 s_X2_162 dX2_whole_67 (c_X1_countSewn (S := (hw1 S i).1)) rfl rfl 0 rfl rfl rfl [4, 5, 6] [0, 1, 2, 3] rfl rfl rfl rfl (by decide) jRm_ok (Nat.le_of_ble_eq_true rfl) ⟨(Nat.le_of_ble_eq_true rfl), (Nat.le_of_ble_eq_true rfl)⟩ [0, 1, 2, 3, 4, 5, 6] rfl rfl ?_
  refine r_istore (lv2 := [_, _, _, _, _, _, none]) 70 dX2_whole_70 (by decide) rfl rfl ?_
  refine r_aload_n 72 dX2_whole_72 rfl ?_
  refine r_iload_n 73 dX2_whole_73 rfl ?_
  refine r_iload 74 dX2_whole_74 rfl ?_
  refine r_iload_n 76 dX2_whole_76 rfl ?_
  refine r_callVD (ws2 := [_, _, _, _, _, _, _]) (wr := []) 77 s_X2_158 dX2_whole_77 (h_joinAll (T := (hw1 S i).1) hw1w (thr := hiN S) (j0 := csN (hw1 S i).1) (i := i) hhi hcs) rfl rfl 0 rfl rfl rfl [0, 1, 2, 3, 4, 5, 6] [] rfl rfl rfl rfl (by decide) jRm_ok (Nat.le_of_ble_eq_true rfl) ⟨(Nat.le_of_ble_eq_true rfl), (Nat.le_of_ble_eq_true rfl)⟩ [0, 1, 2, 3, 4, 5, 6] rfl rfl ?_
  refine r_istore (lv2 := [_, _, _, _, _, _, _]) 80 dX2_whole_80 (by decide) rfl rfl ?_
  refine r_aload_n 82 dX2_whole_82 rfl ?_
  refine r_get 83 f_X2_16 dX2_whole_83 0 rfl rfl ?_
  refine r_aload_n 86 dX2_whole_86 rfl ?_
  refine r_get 87 f_X2_16 dX2_whole_87 0 rfl rfl ?_
  refine r_callVD (ws2 := [_, _, _, _, _, _, _]) (wr := [_, _, _, _]) 90 s_X2_67 dX2_whole_90 (q_squares (S := (hw2 S i).1)) rfl rfl 0 rfl rfl rfl [4, 5, 6] [0, 1, 2, 3] rfl rfl rfl rfl (by decide) jRm_ok (Nat.le_of_ble_eq_true rfl) ⟨(Nat.le_of_ble_eq_true rfl), (Nat.le_of_ble_eq_true rfl)⟩ [0, 1, 2, 3, 4, 5, 6] rfl rfl ?_
  refine r_callVD (ws2 := [_, _, _, _, _, _, _]) (wr := [_, _, _, _]) 93 s_X2_128 dX2_whole_93 (c_X1_countPieces (S := (hw2 S i).1) hw2w) rfl rfl 0 rfl rfl rfl [4, 5, 6] [0, 1, 2, 3] rfl rfl rfl rfl (by decide) jRm_ok (Nat.le_of_ble_eq_true rfl) ⟨(Nat.le_of_ble_eq_true rfl), (Nat.le_of_ble_eq_true rfl)⟩ [0, 1, 2, 3, 4, 5, 6] rfl rfl ?_
  refine r_iconst (v := 1) 96 dX2_whole_96 (by decide) ?_
  refine r_icmp_eq 97 103 dX2_whole_97 (by decide) (fun c_97 => ?_) (fun c_97 => ?_)
  · -- 97T
    have hc1 : cpN (hw2 S i).1 16 (sqB (hw2 S i).1) = 1 := (nI_eq (Nat.lt_of_le_of_lt (cpN_le _ _ _) (by decide)) (by decide)).mp c_97
    refine r_iload_n 103 dX2_whole_103 rfl ?_
    refine r_iconst (v := -1) 104 dX2_whole_104 (by decide) ?_
    refine r_icmp_ne 105 116 dX2_whole_105 (by decide) (fun c_105 => ?_) (fun c_105 => ?_)
    · -- 105T
      have hi1 := c_105
      refine r_iload 116 dX2_whole_116 rfl ?_
      refine r_bipush (v := -6) 118 dX2_whole_118 (by decide) ?_
      refine r_icmp_eq 120 128 dX2_whole_120 (by decide) (fun c_120 => ?_) (fun c_120 => ?_)
      · -- 120T
        have hfin : whC S i = (hw2 S i).2.2 := by
          unfold whC
          rw [if_pos hc1, if_neg hi1, if_pos (show (hw1 S i).2.2 = -6 from c_120)]
        refine r_iload 128 dX2_whole_128 rfl ?_
        exact r_iret 130 dX2_whole_130 rfl rfl (Nat.le_of_ble_eq_true rfl) (Nat.le_of_ble_eq_true rfl) (⟨by rw [hfin] <;> rfl, _, rfl⟩)
      · -- 120F
        have hfin : whC S i = (hw1 S i).2.2 := by
          unfold whC
          rw [if_pos hc1, if_neg hi1, if_neg (show ¬ (hw1 S i).2.2 = -6 from c_120)]
        refine r_iload 123 dX2_whole_123 rfl ?_
        refine r_goto 125 130 dX2_whole_125 (by decide) ?_
        exact r_iret 130 dX2_whole_130 rfl rfl (Nat.le_of_ble_eq_true rfl) (Nat.le_of_ble_eq_true rfl) (⟨by rw [hfin] <;> rfl, _, rfl⟩)
    · -- 105F
      have hfin : whC S i = nI (kiN (hw2 S i).1 4) * nI (sK (hw2 S i).1) + (nI (csN (hw2 S i).1) - nI (kiN (hw2 S i).1 4)) * nI (sO (hw2 S i).1) := by
        unfold whC
        rw [if_pos hc1, if_pos c_105]
      refine r_aload_n 108 dX2_whole_108 rfl ?_
      refine r_get 109 f_X2_16 dX2_whole_109 0 rfl rfl ?_
      refine r_callVD (ws2 := [_, _, _, _, _, _, _]) (wr := [_, _, _, _]) 112 s_X2_137 dX2_whole_112 (c_X1_threadOfAll (S := (hw2 S i).1) hw2w) rfl rfl 0 rfl rfl rfl [4, 5, 6] [0, 1, 2, 3] rfl rfl rfl rfl (by decide) jRm_ok (Nat.le_of_ble_eq_true rfl) ⟨(Nat.le_of_ble_eq_true rfl), (Nat.le_of_ble_eq_true rfl)⟩ [0, 1, 2, 3, 4, 5, 6] rfl rfl ?_
      exact r_iret 115 dX2_whole_115 rfl rfl (Nat.le_of_ble_eq_true rfl) (Nat.le_of_ble_eq_true rfl) (⟨by rw [hfin] <;> rfl, _, rfl⟩)
  · -- 97F
    have hfin : whC S i = -6 := by
      unfold whC
      exact if_neg (fun z => c_97 (by rw [z]; rfl))
    refine r_bipush (v := -6) 100 dX2_whole_100 (by decide) ?_
    exact r_iret 102 dX2_whole_102 rfl rfl (Nat.le_of_ble_eq_true rfl) (Nat.le_of_ble_eq_true rfl) (⟨by rw [hfin] <;> rfl, _, rfl⟩)
