theorem im_16 {g : Nat → Int32} (f : Nat → Int32) (j : Nat) (hj : j < 16) : upd (upd (upd (upd (upd (upd (upd (upd (upd (upd (upd (upd (upd (upd (upd (upd g 0 (f 0)) 1 (f 1)) 2 (f 2)) 3 (f 3)) 4 (f 4)) 5 (f 5)) 6 (f 6)) 7 (f 7)) 8 (f 8)) 9 (f 9)) 10 (f 10)) 11 (f 11)) 12 (f 12)) 13 (f 13)) 14 (f 14)) 15 (f 15) j = f j := by
  rcases (show j = 0 ∨ j = 1 ∨ j = 2 ∨ j = 3 ∨ j = 4 ∨ j = 5 ∨ j = 6 ∨ j = 7 ∨ j = 8 ∨ j = 9 ∨ j = 10 ∨ j = 11 ∨ j = 12 ∨ j = 13 ∨ j = 14 ∨ j = 15 by omega) with rfl | rfl | rfl | rfl | rfl | rfl | rfl | rfl | rfl | rfl | rfl | rfl | rfl | rfl | rfl | rfl <;> rfl
set_option maxRecDepth 100000 in
set_option maxHeartbeats 400000 in
theorem lp_mpatch0 {G : jG} {d : Nat} {m : Nat} {A : Nat → Nat} {S : qS} {pm se th ka iw : Int32} (hS : wf S) {f : Nat} (hf : f < 4) : ∀ (n : Nat) (k : Nat), sP S + 1 ≤ k + n → k ≤ sP S → Rn G RX3 "patch" cX3_patch 7 (some .int) (jR (d + 4) 0 0) jX0 (jE G (jD (some (.int (nN (ptN S f (sP S)).1))) (wX G m A S pm se th ka iw)) 0 0) 0 0 31 [some (.ref m), some (.int (nI f)), some (.int 0), some (.int (nN (ptN S f k).1)), some (.int (nI (ptN S f k).2)), some (.int (nI k)), none] [] (wX G m A S pm se th ka iw) := by
  intro n
  induction n with
  | zero => intros; omega
  | succ n ih =>
    intro k h1 h2
    have h16 := hS.p16
    refine r_iload 31 dX3_patch_31 rfl ?_
    refine r_aload_n 33 dX3_patch_33 rfl ?_
    refine r_callVD (ws2 := [_, _, _, _]) (wr := []) 34 s_X3_75 dX3_patch_34 (m_places) rfl rfl 0 rfl rfl rfl [0, 1, 2, 3] [] rfl rfl rfl rfl (by decide) jRm_ok (Nat.le_of_ble_eq_true rfl) ⟨(Nat.le_of_ble_eq_true rfl), (Nat.le_of_ble_eq_true rfl)⟩ [0, 1, 2, 3] rfl rfl ?_
    refine r_icmp_geN 37 97 dX3_patch_37 (by decide) (by omega) (by omega) (fun c_37 => ?_) (fun c_37 => ?_)
    · -- 37T
      obtain rfl : k = sP S := by omega
      refine r_iload_n 97 dX3_patch_97 rfl ?_
      refine r_if_lt 98 105 dX3_patch_98 (by decide) (fun c_98 => ?_) (fun c_98 => ?_)
      · -- 98T
        have hb : (ptN S f (sP S)).1 = 16 := (nN_neg (ptN_le S f (sP S) (by omega)).1).mp c_98
        refine r_iload_n 105 dX3_patch_105 rfl ?_
        refine r_goto 106 111 dX3_patch_106 (by decide) ?_
        exact r_iret 111 dX3_patch_111 rfl rfl (Nat.le_of_ble_eq_true rfl) (Nat.le_of_ble_eq_true rfl) (jd rfl)
      · -- 98F
        have hb : ¬ (ptN S f (sP S)).1 = 16 := fun z => c_98 ((nN_neg (ptN_le S f (sP S) (by omega)).1).mpr z)
        refine r_iload_n 101 dX3_patch_101 rfl ?_
        refine r_if_neF 102 109 dX3_patch_102 (by decide) (by decide) ?_
        refine r_iload_n 105 dX3_patch_105 rfl ?_
        refine r_goto 106 111 dX3_patch_106 (by decide) ?_
        exact r_iret 111 dX3_patch_111 rfl rfl (Nat.le_of_ble_eq_true rfl) (Nat.le_of_ble_eq_true rfl) (jd rfl)
    · -- 37F
      refine r_aload_n 40 dX3_patch_40 rfl ?_
      refine r_iload 41 dX3_patch_41 rfl ?_
      refine r_callVD (ws2 := [_, _, _, _]) (wr := []) 43 s_X3_108 dX3_patch_43 (m_isSquare (show k < 16 by omega) (hS.f4 k)) rfl rfl 0 rfl rfl rfl [0, 1, 2, 3] [] rfl rfl rfl rfl (by decide) jRm_ok (Nat.le_of_ble_eq_true rfl) ⟨(Nat.le_of_ble_eq_true rfl), (Nat.le_of_ble_eq_true rfl)⟩ [0, 1, 2, 3] rfl rfl ?_
      refine r_if_neB 46 91 dX3_patch_46 (by decide) (fun c_46 => ?_) (fun c_46 => ?_)
      · -- 46T
        rw [← ptN_1 (sqB_iff.mp c_46)]
        refine r_iinc (lv2 := [_, _, _, _, _, _, none]) 91 dX3_patch_91 rfl (jinc) (by decide) rfl rfl ?_
        refine r_goto 94 31 dX3_patch_94 (by decide) ?_
        refine r_drop (lv2 := [_, _, _, _, _, _, none]) 6 rfl ?_
        have hih := ih (k + 1) (by omega) (by omega)
        first
        | exact hih
        | (rw [e, show nN (k, ptC S f k).1 = nI k from (nN_k (by omega)).symm] at hih; exact hih)
      · -- 46F
        have hk4 : ¬ sF S k < 4 := fun z => c_46 (sqB_iff.mpr z)
        have h4 : sF S k = 4 := by have := hS.f4 k; omega
        refine r_aload_n 49 dX3_patch_49 rfl ?_
        refine r_iload 50 dX3_patch_50 rfl ?_
        refine r_iload_n 52 dX3_patch_52 rfl ?_
        refine r_callVD (ws2 := [_, _, _, _]) (wr := []) 53 s_X3_136 dX3_patch_53 (m_bear hS (show k < sP S by omega) hf h4) rfl rfl 0 rfl rfl rfl [0, 1, 2, 3] [] rfl rfl rfl rfl (by decide) jRm_ok (Nat.le_of_ble_eq_true rfl) ⟨(Nat.le_of_ble_eq_true rfl), (Nat.le_of_ble_eq_true rfl)⟩ [0, 1, 2, 3] rfl rfl ?_
        refine r_pop 56 dX3_patch_56 rfl ?_
        refine r_aload_n 57 dX3_patch_57 rfl ?_
        refine r_callVD (ws2 := [_, _, _, _]) (wr := []) 58 s_X3_162 dX3_patch_58 (m_cold (wf_be hS (show k < sP S by omega) hf h4)) rfl rfl 0 rfl rfl rfl [0, 1, 2, 3] [] rfl rfl rfl rfl (by decide) jRm_ok (Nat.le_of_ble_eq_true rfl) ⟨(Nat.le_of_ble_eq_true rfl), (Nat.le_of_ble_eq_true rfl)⟩ [0, 1, 2, 3] rfl rfl ?_
        refine r_callSD (ws2 := [_, _, _, _]) (wr := [_, _, _, _]) 61 s_X3_104 dX3_patch_61 (m_ones) rfl rfl [] [0, 1, 2, 3] rfl rfl rfl rfl (by decide) jRm_ok (Nat.le_of_ble_eq_true rfl) ⟨(Nat.le_of_ble_eq_true rfl), (Nat.le_of_ble_eq_true rfl)⟩ [0, 1, 2, 3] rfl rfl ?_
        refine r_istore (lv2 := [_, _, _, _, _, _, _]) 64 dX3_patch_64 (by decide) rfl rfl ?_
        refine r_aload_n 66 dX3_patch_66 rfl ?_
        refine r_iload 67 dX3_patch_67 rfl ?_
        refine r_callVD (ws2 := [_, _, _, _]) (wr := []) 69 s_X3_139 dX3_patch_69 (m_die (S := beS S k f) (wf_be hS (show k < sP S by omega) hf h4) (show k < sP S by omega)) rfl rfl 0 rfl rfl rfl [0, 1, 2, 3] [] rfl rfl rfl rfl (by decide) jRm_ok (Nat.le_of_ble_eq_true rfl) ⟨(Nat.le_of_ble_eq_true rfl), (Nat.le_of_ble_eq_true rfl)⟩ [0, 1, 2, 3] rfl rfl ?_
        rw [die_be hS h4]
        refine r_pop 72 dX3_patch_72 rfl ?_
        refine r_iload_n 73 dX3_patch_73 rfl ?_
        refine r_if_lt 74 84 dX3_patch_74 (by decide) (fun c_74 => ?_) (fun c_74 => ?_)
        · -- 74T
          have hb : (ptN S f k).1 = 16 := (nN_neg (ptN_le S f k (by omega)).1).mp c_74
          have e := ptN_2 (f := f) hk4 (Or.inl hb)
          refine r_iload 84 dX3_patch_84 rfl ?_
          refine r_istore_n (lv2 := [_, _, _, _, _, _, _]) 86 dX3_patch_86 (by decide) rfl rfl ?_
          refine r_iload 87 dX3_patch_87 rfl ?_
          refine r_istore (lv2 := [_, _, _, _, _, _, _]) 89 dX3_patch_89 (by decide) rfl rfl ?_
          refine r_iinc (lv2 := [_, _, _, _, _, _, _]) 91 dX3_patch_91 rfl (jinc) (by decide) rfl rfl ?_
          refine r_goto 94 31 dX3_patch_94 (by decide) ?_
          refine r_drop (lv2 := [_, _, _, _, _, _, none]) 6 rfl ?_
          have hih := ih (k + 1) (by omega) (by omega)
          first
          | exact hih
          | (rw [e, show nN (k, ptC S f k).1 = nI k from (nN_k (by omega)).symm] at hih; exact hih)
        · -- 74F
          refine r_iload 77 dX3_patch_77 rfl ?_
          refine r_iload 79 dX3_patch_79 rfl ?_
          refine r_icmp_geN 81 91 dX3_patch_81 (by decide) (Nat.lt_of_le_of_lt (cnt_le _ 16) (by decide)) (by have := (ptN_le S f k (by omega)).2; omega) (fun c_81 => ?_) (fun c_81 => ?_)
          · -- 81T
            have hb : ¬ (ptN S f k).1 = 16 := fun z => c_74 ((nN_neg (ptN_le S f k (by omega)).1).mpr z)
            have e := ptN_3 (f := f) hk4 (fun z => z.elim hb (Nat.not_lt.mpr c_81))
            rw [← e]
            refine r_iinc (lv2 := [_, _, _, _, _, _, _]) 91 dX3_patch_91 rfl (jinc) (by decide) rfl rfl ?_
            refine r_goto 94 31 dX3_patch_94 (by decide) ?_
            refine r_drop (lv2 := [_, _, _, _, _, _, none]) 6 rfl ?_
            have hih := ih (k + 1) (by omega) (by omega)
            first
            | exact hih
            | (rw [e, show nN (k, ptC S f k).1 = nI k from (nN_k (by omega)).symm] at hih; exact hih)
          · -- 81F
            have e := ptN_2 (f := f) hk4 (Or.inr c_81)
            refine r_iload 84 dX3_patch_84 rfl ?_
            refine r_istore_n (lv2 := [_, _, _, _, _, _, _]) 86 dX3_patch_86 (by decide) rfl rfl ?_
            refine r_iload 87 dX3_patch_87 rfl ?_
            refine r_istore (lv2 := [_, _, _, _, _, _, _]) 89 dX3_patch_89 (by decide) rfl rfl ?_
            refine r_iinc (lv2 := [_, _, _, _, _, _, _]) 91 dX3_patch_91 rfl (jinc) (by decide) rfl rfl ?_
            refine r_goto 94 31 dX3_patch_94 (by decide) ?_
            refine r_drop (lv2 := [_, _, _, _, _, _, none]) 6 rfl ?_
            have hih := ih (k + 1) (by omega) (by omega)
            first
            | exact hih
            | (rw [e, show nN (k, ptC S f k).1 = nI k from (nN_k (by omega)).symm] at hih; exact hih)
set_option maxRecDepth 100000 in
set_option maxHeartbeats 400000 in
theorem m_patch0 {G : jG} {d : Nat} {m : Nat} {A : Nat → Nat} {S : qS} {pm se th ka iw : Int32} (hS : wf S) {f : Nat} (hf : f < 4) : Ct G yX3_patch cX3_patch 7 (some .int) (d + 4) 0 0 [.ref m, .int (nI f), .int 0] (wX G m A S pm se th ka iw) (jD (some (.int (nN (ptN S f (sP S)).1))) (wX G m A S pm se th ka iw)) := by
  refine ct_of (by decide) (Nat.le_of_ble_eq_true rfl) (own := RX3) (nm := "patch") rfl rfl (lv := [some (.ref m), some (.int (nI f)), some (.int 0), none, none, none, none]) rfl ?_
  refine r_iload_n 0 dX3_patch_0 rfl ?_
  refine r_callSD (ws2 := [_, _, _, _]) (wr := [_, _, _, _]) 1 s_X3_115 dX3_patch_1 (m_isFamily) rfl rfl [] [0, 1, 2, 3] rfl rfl rfl rfl (by decide) jRm_ok (Nat.le_of_ble_eq_true rfl) ⟨(Nat.le_of_ble_eq_true rfl), (Nat.le_of_ble_eq_true rfl)⟩ [0, 1, 2, 3] rfl rfl ?_
  refine r_if_neB 4 9 dX3_patch_4 (by decide) (fun c_4 => ?_) (fun c_4 => ?_)
  · -- 4T
    refine r_iload_n 9 dX3_patch_9 rfl ?_
    refine r_i2l 10 dX3_patch_10 ?_
    refine r_lconst (v := 0) 11 dX3_patch_11 (by decide) ?_
    refine r_lconst (v := 1) 12 dX3_patch_12 (by decide) ?_
    refine r_sta (st2 := [.long (1 : Int32).toInt64, .long (0 : Int32).toInt64, .long (0 : Int32).toInt64]) rfl ?_
    refine r_callSD (ws2 := [_, _, _, _]) (wr := [_, _, _, _]) 13 s_X3_79 dX3_patch_13 (m_in) rfl rfl [] [0, 1, 2, 3] rfl rfl rfl rfl (by decide) jRm_ok (Nat.le_of_ble_eq_true rfl) ⟨(Nat.le_of_ble_eq_true rfl), (Nat.le_of_ble_eq_true rfl)⟩ [0, 1, 2, 3] rfl rfl ?_
    refine r_if_neB 16 22 dX3_patch_16 (by decide) (fun c_16 => ?_) (fun c_16 => ?_)
    · -- 16T
      refine r_bipush (v := -6) 22 dX3_patch_22 (by decide) ?_
      refine r_istore_n (lv2 := [_, _, _, _, none, none, none]) 24 dX3_patch_24 (by decide) rfl rfl ?_
      refine r_iconst (v := 0) 25 dX3_patch_25 (by decide) ?_
      refine r_ti (y := nI 0) (nI_0.symm) ?_
      refine r_istore (lv2 := [_, _, _, _, _, none, none]) 26 dX3_patch_26 (by decide) rfl rfl ?_
      refine r_iconst (v := 0) 28 dX3_patch_28 (by decide) ?_
      refine r_ti (y := nI 0) (nI_0.symm) ?_
      refine r_istore (lv2 := [_, _, _, _, _, _, none]) 29 dX3_patch_29 (by decide) rfl rfl ?_
      exact lp_mpatch0 hS hf (sP S + 1) 0 (by omega) (by omega)
    · -- 16F
      exact absurd (by decide) c_16
  · -- 4F
    exact absurd (le_nI (v := f) (c := 3) (by omega) (by decide)) c_4
set_option maxRecDepth 100000 in
set_option maxHeartbeats 400000 in
theorem lp_mpatch1 {G : jG} {d : Nat} {m : Nat} {A : Nat → Nat} {S : qS} {pm se th ka iw : Int32} (hS : wf S) {f : Nat} (hf : f < 4) : ∀ (n : Nat) (k : Nat), sP S + 1 ≤ k + n → k ≤ sP S → Rn G RX3 "patch" cX3_patch 7 (some .int) (jR (d + 4) 0 0) jX0 (jE G (jD (some (.int (ptR S f))) (wX G m A S pm se th ka iw)) 0 0) 0 0 31 [some (.ref m), some (.int (nI f)), some (.int 1), some (.int (nN (ptN S f k).1)), some (.int (nI (ptN S f k).2)), some (.int (nI k)), none] [] (wX G m A S pm se th ka iw) := by
  intro n
  induction n with
  | zero => intros; omega
  | succ n ih =>
    intro k h1 h2
    have h16 := hS.p16
    refine r_iload 31 dX3_patch_31 rfl ?_
    refine r_aload_n 33 dX3_patch_33 rfl ?_
    refine r_callVD (ws2 := [_, _, _, _]) (wr := []) 34 s_X3_75 dX3_patch_34 (m_places) rfl rfl 0 rfl rfl rfl [0, 1, 2, 3] [] rfl rfl rfl rfl (by decide) jRm_ok (Nat.le_of_ble_eq_true rfl) ⟨(Nat.le_of_ble_eq_true rfl), (Nat.le_of_ble_eq_true rfl)⟩ [0, 1, 2, 3] rfl rfl ?_
    refine r_icmp_geN 37 97 dX3_patch_37 (by decide) (by omega) (by omega) (fun c_37 => ?_) (fun c_37 => ?_)
    · -- 37T
      obtain rfl : k = sP S := by omega
      refine r_iload_n 97 dX3_patch_97 rfl ?_
      refine r_if_lt 98 105 dX3_patch_98 (by decide) (fun c_98 => ?_) (fun c_98 => ?_)
      · -- 98T
        have hb : (ptN S f (sP S)).1 = 16 := (nN_neg (ptN_le S f (sP S) (by omega)).1).mp c_98
        refine r_iload_n 105 dX3_patch_105 rfl ?_
        refine r_goto 106 111 dX3_patch_106 (by decide) ?_
        exact r_iret 111 dX3_patch_111 rfl rfl (Nat.le_of_ble_eq_true rfl) (Nat.le_of_ble_eq_true rfl) (jd (by first | (unfold ptR nN; rw [if_pos hb, if_pos hb]) | (unfold ptR; rw [if_neg hb])))
      · -- 98F
        have hb : ¬ (ptN S f (sP S)).1 = 16 := fun z => c_98 ((nN_neg (ptN_le S f (sP S) (by omega)).1).mpr z)
        refine r_iload_n 101 dX3_patch_101 rfl ?_
        refine r_if_neT 102 109 dX3_patch_102 (by decide) (by decide) ?_
        refine r_iload 109 dX3_patch_109 rfl ?_
        exact r_iret 111 dX3_patch_111 rfl rfl (Nat.le_of_ble_eq_true rfl) (Nat.le_of_ble_eq_true rfl) (jd (by first | (unfold ptR nN; rw [if_pos hb, if_pos hb]) | (unfold ptR; rw [if_neg hb])))
    · -- 37F
      refine r_aload_n 40 dX3_patch_40 rfl ?_
      refine r_iload 41 dX3_patch_41 rfl ?_
      refine r_callVD (ws2 := [_, _, _, _]) (wr := []) 43 s_X3_108 dX3_patch_43 (m_isSquare (show k < 16 by omega) (hS.f4 k)) rfl rfl 0 rfl rfl rfl [0, 1, 2, 3] [] rfl rfl rfl rfl (by decide) jRm_ok (Nat.le_of_ble_eq_true rfl) ⟨(Nat.le_of_ble_eq_true rfl), (Nat.le_of_ble_eq_true rfl)⟩ [0, 1, 2, 3] rfl rfl ?_
      refine r_if_neB 46 91 dX3_patch_46 (by decide) (fun c_46 => ?_) (fun c_46 => ?_)
      · -- 46T
        rw [← ptN_1 (sqB_iff.mp c_46)]
        refine r_iinc (lv2 := [_, _, _, _, _, _, none]) 91 dX3_patch_91 rfl (jinc) (by decide) rfl rfl ?_
        refine r_goto 94 31 dX3_patch_94 (by decide) ?_
        refine r_drop (lv2 := [_, _, _, _, _, _, none]) 6 rfl ?_
        have hih := ih (k + 1) (by omega) (by omega)
        first
        | exact hih
        | (rw [e, show nN (k, ptC S f k).1 = nI k from (nN_k (by omega)).symm] at hih; exact hih)
      · -- 46F
        have hk4 : ¬ sF S k < 4 := fun z => c_46 (sqB_iff.mpr z)
        have h4 : sF S k = 4 := by have := hS.f4 k; omega
        refine r_aload_n 49 dX3_patch_49 rfl ?_
        refine r_iload 50 dX3_patch_50 rfl ?_
        refine r_iload_n 52 dX3_patch_52 rfl ?_
        refine r_callVD (ws2 := [_, _, _, _]) (wr := []) 53 s_X3_136 dX3_patch_53 (m_bear hS (show k < sP S by omega) hf h4) rfl rfl 0 rfl rfl rfl [0, 1, 2, 3] [] rfl rfl rfl rfl (by decide) jRm_ok (Nat.le_of_ble_eq_true rfl) ⟨(Nat.le_of_ble_eq_true rfl), (Nat.le_of_ble_eq_true rfl)⟩ [0, 1, 2, 3] rfl rfl ?_
        refine r_pop 56 dX3_patch_56 rfl ?_
        refine r_aload_n 57 dX3_patch_57 rfl ?_
        refine r_callVD (ws2 := [_, _, _, _]) (wr := []) 58 s_X3_162 dX3_patch_58 (m_cold (wf_be hS (show k < sP S by omega) hf h4)) rfl rfl 0 rfl rfl rfl [0, 1, 2, 3] [] rfl rfl rfl rfl (by decide) jRm_ok (Nat.le_of_ble_eq_true rfl) ⟨(Nat.le_of_ble_eq_true rfl), (Nat.le_of_ble_eq_true rfl)⟩ [0, 1, 2, 3] rfl rfl ?_
        refine r_callSD (ws2 := [_, _, _, _]) (wr := [_, _, _, _]) 61 s_X3_104 dX3_patch_61 (m_ones) rfl rfl [] [0, 1, 2, 3] rfl rfl rfl rfl (by decide) jRm_ok (Nat.le_of_ble_eq_true rfl) ⟨(Nat.le_of_ble_eq_true rfl), (Nat.le_of_ble_eq_true rfl)⟩ [0, 1, 2, 3] rfl rfl ?_
        refine r_istore (lv2 := [_, _, _, _, _, _, _]) 64 dX3_patch_64 (by decide) rfl rfl ?_
        refine r_aload_n 66 dX3_patch_66 rfl ?_
        refine r_iload 67 dX3_patch_67 rfl ?_
        refine r_callVD (ws2 := [_, _, _, _]) (wr := []) 69 s_X3_139 dX3_patch_69 (m_die (S := beS S k f) (wf_be hS (show k < sP S by omega) hf h4) (show k < sP S by omega)) rfl rfl 0 rfl rfl rfl [0, 1, 2, 3] [] rfl rfl rfl rfl (by decide) jRm_ok (Nat.le_of_ble_eq_true rfl) ⟨(Nat.le_of_ble_eq_true rfl), (Nat.le_of_ble_eq_true rfl)⟩ [0, 1, 2, 3] rfl rfl ?_
        rw [die_be hS h4]
        refine r_pop 72 dX3_patch_72 rfl ?_
        refine r_iload_n 73 dX3_patch_73 rfl ?_
        refine r_if_lt 74 84 dX3_patch_74 (by decide) (fun c_74 => ?_) (fun c_74 => ?_)
        · -- 74T
          have hb : (ptN S f k).1 = 16 := (nN_neg (ptN_le S f k (by omega)).1).mp c_74
          have e := ptN_2 (f := f) hk4 (Or.inl hb)
          refine r_iload 84 dX3_patch_84 rfl ?_
          refine r_istore_n (lv2 := [_, _, _, _, _, _, _]) 86 dX3_patch_86 (by decide) rfl rfl ?_
          refine r_iload 87 dX3_patch_87 rfl ?_
          refine r_istore (lv2 := [_, _, _, _, _, _, _]) 89 dX3_patch_89 (by decide) rfl rfl ?_
          refine r_iinc (lv2 := [_, _, _, _, _, _, _]) 91 dX3_patch_91 rfl (jinc) (by decide) rfl rfl ?_
          refine r_goto 94 31 dX3_patch_94 (by decide) ?_
          refine r_drop (lv2 := [_, _, _, _, _, _, none]) 6 rfl ?_
          have hih := ih (k + 1) (by omega) (by omega)
          first
          | exact hih
          | (rw [e, show nN (k, ptC S f k).1 = nI k from (nN_k (by omega)).symm] at hih; exact hih)
        · -- 74F
          refine r_iload 77 dX3_patch_77 rfl ?_
          refine r_iload 79 dX3_patch_79 rfl ?_
          refine r_icmp_geN 81 91 dX3_patch_81 (by decide) (Nat.lt_of_le_of_lt (cnt_le _ 16) (by decide)) (by have := (ptN_le S f k (by omega)).2; omega) (fun c_81 => ?_) (fun c_81 => ?_)
          · -- 81T
            have hb : ¬ (ptN S f k).1 = 16 := fun z => c_74 ((nN_neg (ptN_le S f k (by omega)).1).mpr z)
            have e := ptN_3 (f := f) hk4 (fun z => z.elim hb (Nat.not_lt.mpr c_81))
            rw [← e]
            refine r_iinc (lv2 := [_, _, _, _, _, _, _]) 91 dX3_patch_91 rfl (jinc) (by decide) rfl rfl ?_
            refine r_goto 94 31 dX3_patch_94 (by decide) ?_
            refine r_drop (lv2 := [_, _, _, _, _, _, none]) 6 rfl ?_
            have hih := ih (k + 1) (by omega) (by omega)
            first
            | exact hih
            | (rw [e, show nN (k, ptC S f k).1 = nI k from (nN_k (by omega)).symm] at hih; exact hih)
          · -- 81F
            have e := ptN_2 (f := f) hk4 (Or.inr c_81)
            refine r_iload 84 dX3_patch_84 rfl ?_
            refine r_istore_n (lv2 := [_, _, _, _, _, _, _]) 86 dX3_patch_86 (by decide) rfl rfl ?_
            refine r_iload 87 dX3_patch_87 rfl ?_
            refine r_istore (lv2 := [_, _, _, _, _, _, _]) 89 dX3_patch_89 (by decide) rfl rfl ?_
            refine r_iinc (lv2 := [_, _, _, _, _, _, _]) 91 dX3_patch_91 rfl (jinc) (by decide) rfl rfl ?_
            refine r_goto 94 31 dX3_patch_94 (by decide) ?_
            refine r_drop (lv2 := [_, _, _, _, _, _, none]) 6 rfl ?_
            have hih := ih (k + 1) (by omega) (by omega)
            first
            | exact hih
            | (rw [e, show nN (k, ptC S f k).1 = nI k from (nN_k (by omega)).symm] at hih; exact hih)
set_option maxRecDepth 100000 in
set_option maxHeartbeats 400000 in
theorem m_patch1 {G : jG} {d : Nat} {m : Nat} {A : Nat → Nat} {S : qS} {pm se th ka iw : Int32} (hS : wf S) {f : Nat} (hf : f < 4) : Ct G yX3_patch cX3_patch 7 (some .int) (d + 4) 0 0 [.ref m, .int (nI f), .int 1] (wX G m A S pm se th ka iw) (jD (some (.int (ptR S f))) (wX G m A S pm se th ka iw)) := by
  refine ct_of (by decide) (Nat.le_of_ble_eq_true rfl) (own := RX3) (nm := "patch") rfl rfl (lv := [some (.ref m), some (.int (nI f)), some (.int 1), none, none, none, none]) rfl ?_
  refine r_iload_n 0 dX3_patch_0 rfl ?_
  refine r_callSD (ws2 := [_, _, _, _]) (wr := [_, _, _, _]) 1 s_X3_115 dX3_patch_1 (m_isFamily) rfl rfl [] [0, 1, 2, 3] rfl rfl rfl rfl (by decide) jRm_ok (Nat.le_of_ble_eq_true rfl) ⟨(Nat.le_of_ble_eq_true rfl), (Nat.le_of_ble_eq_true rfl)⟩ [0, 1, 2, 3] rfl rfl ?_
  refine r_if_neB 4 9 dX3_patch_4 (by decide) (fun c_4 => ?_) (fun c_4 => ?_)
  · -- 4T
    refine r_iload_n 9 dX3_patch_9 rfl ?_
    refine r_i2l 10 dX3_patch_10 ?_
    refine r_lconst (v := 0) 11 dX3_patch_11 (by decide) ?_
    refine r_lconst (v := 1) 12 dX3_patch_12 (by decide) ?_
    refine r_sta (st2 := [.long (1 : Int32).toInt64, .long (0 : Int32).toInt64, .long (1 : Int32).toInt64]) rfl ?_
    refine r_callSD (ws2 := [_, _, _, _]) (wr := [_, _, _, _]) 13 s_X3_79 dX3_patch_13 (m_in) rfl rfl [] [0, 1, 2, 3] rfl rfl rfl rfl (by decide) jRm_ok (Nat.le_of_ble_eq_true rfl) ⟨(Nat.le_of_ble_eq_true rfl), (Nat.le_of_ble_eq_true rfl)⟩ [0, 1, 2, 3] rfl rfl ?_
    refine r_if_neB 16 22 dX3_patch_16 (by decide) (fun c_16 => ?_) (fun c_16 => ?_)
    · -- 16T
      refine r_bipush (v := -6) 22 dX3_patch_22 (by decide) ?_
      refine r_istore_n (lv2 := [_, _, _, _, none, none, none]) 24 dX3_patch_24 (by decide) rfl rfl ?_
      refine r_iconst (v := 0) 25 dX3_patch_25 (by decide) ?_
      refine r_ti (y := nI 0) (nI_0.symm) ?_
      refine r_istore (lv2 := [_, _, _, _, _, none, none]) 26 dX3_patch_26 (by decide) rfl rfl ?_
      refine r_iconst (v := 0) 28 dX3_patch_28 (by decide) ?_
      refine r_ti (y := nI 0) (nI_0.symm) ?_
      refine r_istore (lv2 := [_, _, _, _, _, _, none]) 29 dX3_patch_29 (by decide) rfl rfl ?_
      exact lp_mpatch1 hS hf (sP S + 1) 0 (by omega) (by omega)
    · -- 16F
      exact absurd (by decide) c_16
  · -- 4F
    exact absurd (le_nI (v := f) (c := 3) (by omega) (by decide)) c_4
set_option maxRecDepth 100000 in
set_option maxHeartbeats 400000 in
theorem m_patchU {G : jG} {d : Nat} {m : Nat} {A : Nat → Nat} {S : qS} {pm se th ka iw : Int32} {x y : Int32} (h : ¬ (0 ≤ x ∧ x ≤ 3)) : Ct G yX3_patch cX3_patch 7 (some .int) (d + 4) 0 0 [.ref m, .int x, .int y] (wX G m A S pm se th ka iw) (jD (some (.int (-1))) (wX G m A S pm se th ka iw)) := by
  refine ct_of (by decide) (Nat.le_of_ble_eq_true rfl) (own := RX3) (nm := "patch") rfl rfl (lv := [some (.ref m), some (.int x), some (.int y), none, none, none, none]) rfl ?_
  refine r_iload_n 0 dX3_patch_0 rfl ?_
  refine r_callSD (ws2 := [_, _, _, _]) (wr := [_, _, _, _]) 1 s_X3_115 dX3_patch_1 (m_isFamily) rfl rfl [] [0, 1, 2, 3] rfl rfl rfl rfl (by decide) jRm_ok (Nat.le_of_ble_eq_true rfl) ⟨(Nat.le_of_ble_eq_true rfl), (Nat.le_of_ble_eq_true rfl)⟩ [0, 1, 2, 3] rfl rfl ?_
  refine r_if_neB 4 9 dX3_patch_4 (by decide) (fun c_4 => ?_) (fun c_4 => ?_)
  · -- 4T
    exact absurd c_4 h
  · -- 4F
    refine r_iconst (v := -1) 7 dX3_patch_7 (by decide) ?_
    exact r_iret 8 dX3_patch_8 rfl rfl (Nat.le_of_ble_eq_true rfl) (Nat.le_of_ble_eq_true rfl) (jd rfl)
set_option maxRecDepth 100000 in
set_option maxHeartbeats 400000 in
theorem m_patchO {G : jG} {d : Nat} {m : Nat} {A : Nat → Nat} {S : qS} {pm se th ka iw : Int32} {x y : Int32} (hx : 0 ≤ x ∧ x ≤ 3) (h : ¬ (0 ≤ y ∧ y ≤ 1)) : Ct G yX3_patch cX3_patch 7 (some .int) (d + 4) 0 0 [.ref m, .int x, .int y] (wX G m A S pm se th ka iw) (jD (some (.int (-2))) (wX G m A S pm se th ka iw)) := by
  refine ct_of (by decide) (Nat.le_of_ble_eq_true rfl) (own := RX3) (nm := "patch") rfl rfl (lv := [some (.ref m), some (.int x), some (.int y), none, none, none, none]) rfl ?_
  refine r_iload_n 0 dX3_patch_0 rfl ?_
  refine r_callSD (ws2 := [_, _, _, _]) (wr := [_, _, _, _]) 1 s_X3_115 dX3_patch_1 (m_isFamily) rfl rfl [] [0, 1, 2, 3] rfl rfl rfl rfl (by decide) jRm_ok (Nat.le_of_ble_eq_true rfl) ⟨(Nat.le_of_ble_eq_true rfl), (Nat.le_of_ble_eq_true rfl)⟩ [0, 1, 2, 3] rfl rfl ?_
  refine r_if_neB 4 9 dX3_patch_4 (by decide) (fun c_4 => ?_) (fun c_4 => ?_)
  · -- 4T
    refine r_iload_n 9 dX3_patch_9 rfl ?_
    refine r_i2l 10 dX3_patch_10 ?_
    refine r_lconst (v := 0) 11 dX3_patch_11 (by decide) ?_
    refine r_lconst (v := 1) 12 dX3_patch_12 (by decide) ?_
    refine r_sta (st2 := [.long (1 : Int32).toInt64, .long (0 : Int32).toInt64, .long y.toInt64]) rfl ?_
    refine r_callSD (ws2 := [_, _, _, _]) (wr := [_, _, _, _]) 13 s_X3_79 dX3_patch_13 (m_in) rfl rfl [] [0, 1, 2, 3] rfl rfl rfl rfl (by decide) jRm_ok (Nat.le_of_ble_eq_true rfl) ⟨(Nat.le_of_ble_eq_true rfl), (Nat.le_of_ble_eq_true rfl)⟩ [0, 1, 2, 3] rfl rfl ?_
    refine r_if_neB 16 22 dX3_patch_16 (by decide) (fun c_16 => ?_) (fun c_16 => ?_)
    · -- 16T
      exact absurd c_16 h
    · -- 16F
      refine r_bipush (v := -2) 19 dX3_patch_19 (by decide) ?_
      exact r_iret 21 dX3_patch_21 rfl rfl (Nat.le_of_ble_eq_true rfl) (Nat.le_of_ble_eq_true rfl) (jd rfl)
  · -- 4F
    exact absurd hx c_4
set_option maxRecDepth 100000 in
set_option maxHeartbeats 400000 in
theorem lp_mkeep {G : jG} {d : Nat} {m : Nat} {A : Nat → Nat} {S : qS} {pm se th ka iw : Int32} {hf hs : Nat → Int32} : ∀ (n : Nat) (k : Nat), 16 + 1 ≤ k + n → k ≤ 16 → Rn G RX3 "keep" cX3_keep 2 none (jR (d + 1) 0 0) jX0 (jE G (jD none (wX G m A (S) pm se th ka iw ++ [(A 10, .inl (G.2.2.1, 16, .inl (fun p => fI (sF S p)))), (A 11, .inl (G.2.2.1, 16, .inl (fun p => mI (sW S p))))])) 0 0) 0 0 2 [some (.ref m), some (.int (nI k))] [] (wX G m A (S) pm se th ka iw ++ [(A 10, .inl (G.2.2.1, 16, .inl (cpI (fun p => fI (sF S p)) hf k))), (A 11, .inl (G.2.2.1, 16, .inl (cpI (fun p => mI (sW S p)) hs k)))]) := by
  intro n
  induction n with
  | zero => intros; omega
  | succ n ih =>
    intro k h1 h2
    refine r_iload_n 2 dX3_keep_2 rfl ?_
    refine r_bipush (v := 16) 3 dX3_keep_3 (by decide) ?_
    refine r_icmp_geN (b := 16) 5 38 dX3_keep_5 (by decide) (by omega) (by decide) (fun c_5 => ?_) (fun c_5 => ?_)
    · -- 5T
      obtain rfl : k = 16 := by omega
      refine r_arrI (f2 := fun p => fI (sF S p)) (ws2 := [_, _, _, _, (_, .inl (_, _, .inl _)), _]) 4 rfl (fun j hj => if_pos hj) rfl ?_
      refine r_arrI (f2 := fun p => mI (sW S p)) (ws2 := [_, _, _, _, _, (_, .inl (_, _, .inl _))]) 5 rfl (fun j hj => if_pos hj) rfl ?_
      exact r_ret 38 dX3_keep_38 rfl (Nat.le_of_ble_eq_true rfl) (Nat.le_of_ble_eq_true rfl) (jdv rfl)
    · -- 5F
      refine r_aload_n 8 dX3_keep_8 rfl ?_
      refine r_get 9 f_X3_42 dX3_keep_9 0 rfl rfl ?_
      refine r_iload_n 12 dX3_keep_12 rfl ?_
      refine r_aload_n 13 dX3_keep_13 rfl ?_
      refine r_get 14 f_X3_13 dX3_keep_14 0 rfl rfl ?_
      refine r_iload_n 17 dX3_keep_17 rfl ?_
      refine r_iaload 18 dX3_keep_18 2 rfl (vp_in_nI (by omega) (by decide)) (nI_clamp (by omega)) ?_
      refine r_iastore (ws2 := [_, _, _, _, (_, .inl (_, _, .inl _)), _]) 19 dX3_keep_19 4 rfl (vp_in_nI (by omega) (by decide)) (nI_clamp (by omega)) rfl ?_
      refine r_arrI (f2 := cpI (fun p => fI (sF S p)) hf (k + 1)) (ws2 := [_, _, _, _, (_, .inl (_, _, .inl _)), _]) 4 rfl (fun j _ => cpI_s j) rfl ?_
      refine r_aload_n 20 dX3_keep_20 rfl ?_
      refine r_get 21 f_X3_45 dX3_keep_21 0 rfl rfl ?_
      refine r_iload_n 24 dX3_keep_24 rfl ?_
      refine r_aload_n 25 dX3_keep_25 rfl ?_
      refine r_get 26 f_X3_16 dX3_keep_26 0 rfl rfl ?_
      refine r_iload_n 29 dX3_keep_29 rfl ?_
      refine r_iaload 30 dX3_keep_30 3 rfl (vp_in_nI (by omega) (by decide)) (nI_clamp (by omega)) ?_
      refine r_iastore (ws2 := [_, _, _, _, _, (_, .inl (_, _, .inl _))]) 31 dX3_keep_31 5 rfl (vp_in_nI (by omega) (by decide)) (nI_clamp (by omega)) rfl ?_
      refine r_arrI (f2 := cpI (fun p => mI (sW S p)) hs (k + 1)) (ws2 := [_, _, _, _, _, (_, .inl (_, _, .inl _))]) 5 rfl (fun j _ => cpI_s j) rfl ?_
      refine r_iinc (lv2 := [_, _]) 32 dX3_keep_32 rfl (jinc) (by decide) rfl rfl ?_
      refine r_goto 35 2 dX3_keep_35 (by decide) ?_
      exact ih (k + 1) (by omega) (by omega)
set_option maxRecDepth 100000 in
set_option maxHeartbeats 400000 in
theorem m_keep {G : jG} {d : Nat} {m : Nat} {A : Nat → Nat} {S : qS} {pm se th ka iw : Int32} {hf hs : Nat → Int32} : Ct G yX3_keep cX3_keep 2 none (d + 1) 0 0 [.ref m] (wX G m A (S) pm se th ka iw ++ [(A 10, .inl (G.2.2.1, 16, .inl (hf))), (A 11, .inl (G.2.2.1, 16, .inl (hs)))]) (jD none (wX G m A (S) pm se th ka iw ++ [(A 10, .inl (G.2.2.1, 16, .inl (fun p => fI (sF S p)))), (A 11, .inl (G.2.2.1, 16, .inl (fun p => mI (sW S p))))])) := by
  refine ct_of (by decide) (Nat.le_of_ble_eq_true rfl) (own := RX3) (nm := "keep") rfl rfl (lv := [some (.ref m), none]) rfl ?_
  refine r_iconst (v := 0) 0 dX3_keep_0 (by decide) ?_
  refine r_ti (y := nI 0) (nI_0.symm) ?_
  refine r_istore_n (lv2 := [_, _]) 1 dX3_keep_1 (by decide) rfl rfl ?_
  refine r_arrI (f2 := cpI (fun p => fI (sF S p)) hf 0) (ws2 := [_, _, _, _, (_, .inl (_, _, .inl _)), _]) 4 rfl (fun j _ => cpI_0 j) rfl ?_
  refine r_arrI (f2 := cpI (fun p => mI (sW S p)) hs 0) (ws2 := [_, _, _, _, _, (_, .inl (_, _, .inl _))]) 5 rfl (fun j _ => cpI_0 j) rfl ?_
  exact lp_mkeep 17 0 (by omega) (by omega)
theorem tn_I {S : qS} (hS : wf S) {p : Nat} (hp : p < sP S) : nI (sR S * (p % sC S)) + nI (sR S) - 1 - nI (p / sC S) = nI (tnN (sR S) (sC S) p) := by
  have hr := hS.r
  have hc := hS.c
  have h3 : p / sC S < sR S := (Nat.div_lt_iff_lt_mul hc.1).mpr hp
  rw [nI_add, show (1 : Int32) = nI 1 from rfl, pk_sub (by omega), pk_sub (by omega)]
  unfold tnN
  rw [Nat.mul_comm (p % sC S)]
  congr 1
  omega
set_option maxRecDepth 100000 in
set_option maxHeartbeats 400000 in
theorem m_turned {G : jG} {d : Nat} {m : Nat} {A : Nat → Nat} {S : qS} {k0 o n0 pm se th ka iw : Int32} {fo fa sw : Nat → Int32} (hS : wf S) {p : Nat} (hp : p < sP S) : Ct G yX3_turned cX3_turned 2 (some .int) (d + 1) 0 0 [.ref m, .int (nI p)] (wM G m A (nI (sR S)) (nI (sC S)) k0 o n0 pm se th ka iw fo fa sw) (jD (some (.int (nI (tnN (sR S) (sC S) p)))) (wM G m A (nI (sR S)) (nI (sC S)) k0 o n0 pm se th ka iw fo fa sw)) := by
  refine ct_of (by decide) (Nat.le_of_ble_eq_true rfl) (own := RX3) (nm := "turned") rfl rfl (lv := [some (.ref m), some (.int (nI p))]) rfl ?_
  have h16 := hS.p16
  have hc := hS.c
  refine r_aload_n 0 dX3_turned_0 rfl ?_
  refine r_get 1 f_X3_69 dX3_turned_1 0 rfl rfl ?_
  refine r_iload_n 4 dX3_turned_4 rfl ?_
  refine r_aload_n 5 dX3_turned_5 rfl ?_
  refine r_get 6 f_X3_72 dX3_turned_6 0 rfl rfl ?_
  refine r_irem 9 dX3_turned_9 (fun z => absurd ((nI_z (by omega)).mp z) (by omega)) ?_
  refine r_ti (y := nI (p % sC S)) (pk_rem (by omega) (by omega) (by omega)) ?_
  refine r_imul 10 dX3_turned_10 ?_
  refine r_ti (y := nI (sR S * (p % sC S))) (pk_mul _ _) ?_
  refine r_aload_n 11 dX3_turned_11 rfl ?_
  refine r_get 12 f_X3_69 dX3_turned_12 0 rfl rfl ?_
  refine r_iadd 15 dX3_turned_15 ?_
  refine r_iconst (v := 1) 16 dX3_turned_16 (by decide) ?_
  refine r_isub 17 dX3_turned_17 ?_
  refine r_iload_n 18 dX3_turned_18 rfl ?_
  refine r_aload_n 19 dX3_turned_19 rfl ?_
  refine r_get 20 f_X3_72 dX3_turned_20 0 rfl rfl ?_
  refine r_idiv 23 dX3_turned_23 (fun z => absurd ((nI_z (by omega)).mp z) (by omega)) ?_
  refine r_ti (y := nI (p / sC S)) (pk_div (by omega) (by omega) (by omega)) ?_
  refine r_isub 24 dX3_turned_24 ?_
  refine r_ti (y := nI (tnN (sR S) (sC S) p)) (tn_I hS hp) ?_
  exact r_iret 25 dX3_turned_25 rfl rfl (Nat.le_of_ble_eq_true rfl) (Nat.le_of_ble_eq_true rfl) (jd rfl)
set_option maxRecDepth 100000 in
set_option maxHeartbeats 400000 in
theorem lp_mtuI {G : jG} {d : Nat} {m : Nat} {A : Nat → Nat} {S : qS} {pm se th ka iw : Int32} (hS : wf S) {p : Nat} (hp : p < sP S) : ∀ (n : Nat) (r : Nat), sP S + 1 ≤ r + n → r ≤ sP S → Rn G RX3 "turn" cX3_turn 4 (some .int) (jR (d + 2) 0 0) jX0 (jE G (jD (some (.int (nI (sP (tuS S))))) (wX G m A (tuS S) pm se th ka iw ++ [(A 10, .inl (G.2.2.1, 16, .inl (fun p => fI (sF S p)))), (A 11, .inl (G.2.2.1, 16, .inl (fun p => mI (sW S p))))])) 0 0) 0 0 89 [some (.ref m), some (.int (nI p)), some (.int (nI (tnN (sR S) (sC S) p))), some (.int (nI (sP S)))] [] (wM G m A (nI (sR S)) (nI (sC S)) (nI (sK S)) (nI (sO S)) (nI (sN S)) pm se th ka iw (fun f => mI (sE S f)) (tfK S (p + 1)) (upd (tsK S p) (tnN (sR S) (sC S) p) (mI (twB S p (sP S)))) ++ [(A 10, .inl (G.2.2.1, 16, .inl (fun p => fI (sF S p)))), (A 11, .inl (G.2.2.1, 16, .inl (fun p => mI (sW S p))))]) → Rn G RX3 "turn" cX3_turn 4 (some .int) (jR (d + 2) 0 0) jX0 (jE G (jD (some (.int (nI (sP (tuS S))))) (wX G m A (tuS S) pm se th ka iw ++ [(A 10, .inl (G.2.2.1, 16, .inl (fun p => fI (sF S p)))), (A 11, .inl (G.2.2.1, 16, .inl (fun p => mI (sW S p))))])) 0 0) 0 0 41 [some (.ref m), some (.int (nI p)), some (.int (nI (tnN (sR S) (sC S) p))), some (.int (nI r))] [] (wM G m A (nI (sR S)) (nI (sC S)) (nI (sK S)) (nI (sO S)) (nI (sN S)) pm se th ka iw (fun f => mI (sE S f)) (tfK S (p + 1)) (upd (tsK S p) (tnN (sR S) (sC S) p) (mI (twB S p (r)))) ++ [(A 10, .inl (G.2.2.1, 16, .inl (fun p => fI (sF S p)))), (A 11, .inl (G.2.2.1, 16, .inl (fun p => mI (sW S p))))]) := by
  intro n
  induction n with
  | zero => intros; omega
  | succ n ih =>
    intro r h1 h2 K
    have h16 := hS.p16
    have htp := (tn_in hS hp).1
    refine r_iload_n 41 dX3_turn_41 rfl ?_
    refine r_aload_n 42 dX3_turn_42 rfl ?_
    refine r_callVD (ws2 := [_, _, _, _, _, _]) (wr := [_, _]) 43 s_X3_75 dX3_turn_43 (m_placesR) rfl rfl 0 rfl rfl rfl [0, 1, 2, 3] [4, 5] rfl rfl rfl rfl (by decide) jRm_ok (Nat.le_of_ble_eq_true rfl) ⟨(Nat.le_of_ble_eq_true rfl), (Nat.le_of_ble_eq_true rfl)⟩ [2, 3, 4, 5, 0, 1] rfl rfl ?_
    refine r_icmp_geN 46 89 dX3_turn_46 (by decide) (by omega) (by omega) (fun c_46 => ?_) (fun c_46 => ?_)
    · -- 46T
      obtain rfl : r = sP S := by omega
      exact K
    · -- 46F
      have htr := (tn_in hS (show r < sP S by omega)).1
      refine r_aload_n 49 dX3_turn_49 rfl ?_
      refine r_get 50 f_X3_16 dX3_turn_50 0 rfl rfl ?_
      refine r_iload_n 53 dX3_turn_53 rfl ?_
      refine r_dup2 54 dX3_turn_54 rfl rfl ?_
      refine r_iaload 55 dX3_turn_55 3 rfl (vp_in_nI (by omega) (by decide)) (nI_clamp (by omega)) ?_
      refine r_ti (y := mI (twB S p r)) (show upd _ _ _ _ = _ from if_pos rfl) ?_
      refine r_aload_n 56 dX3_turn_56 rfl ?_
      refine r_get 57 f_X3_45 dX3_turn_57 0 rfl rfl ?_
      refine r_iload_n 60 dX3_turn_60 rfl ?_
      refine r_iaload 61 dX3_turn_61 5 rfl (vp_in_nI (by omega) (by decide)) (nI_clamp (by omega)) ?_
      refine r_iload_n 62 dX3_turn_62 rfl ?_
      refine r_ishr 63 dX3_turn_63 ?_
      refine r_iconst (v := 1) 64 dX3_turn_64 (by decide) ?_
      refine r_iand 65 dX3_turn_65 ?_
      refine r_iconst (v := 1) 66 dX3_turn_66 (by decide) ?_
      refine r_icmp_ne 67 80 dX3_turn_67 (by decide) (fun c_67 => ?_) (fun c_67 => ?_)
      · -- 67T
        refine r_iconst (v := 0) 80 dX3_turn_80 (by decide) ?_
        refine r_ior 81 dX3_turn_81 ?_
        refine r_ti (y := mI (twB S p (r + 1))) (by first | exact tw_t hS (by omega) ((mI_bit1 (by omega)).mp c_67) | exact tw_f (fun z => c_67 ((mI_bit1 (by omega)).mpr z))) ?_
        refine r_iastore (ws2 := [_, _, _, (_, .inl (_, _, .inl _)), _, _]) 82 dX3_turn_82 3 rfl (vp_in_nI (by omega) (by decide)) (nI_clamp (by omega)) rfl ?_
        refine r_arrI (f2 := upd (tsK S p) (tnN (sR S) (sC S) p) (mI (twB S p (r + 1)))) (ws2 := [_, _, _, (_, .inl (_, _, .inl _)), _, _]) 3 rfl (fun j _ => upd_ow j) rfl ?_
        refine r_iinc (lv2 := [_, _, _, _]) 83 dX3_turn_83 rfl (jinc) (by decide) rfl rfl ?_
        refine r_goto 86 41 dX3_turn_86 (by decide) ?_
        exact ih (r + 1) (by omega) (by omega) K
      · -- 67F
        refine r_iconst (v := 1) 70 dX3_turn_70 (by decide) ?_
        refine r_aload_n 71 dX3_turn_71 rfl ?_
        refine r_iload_n 72 dX3_turn_72 rfl ?_
        refine r_callVD (ws2 := [_, _, _, _, _, _]) (wr := [_, _]) 73 s_X3_195 dX3_turn_73 (m_turned hS (show r < sP S by omega)) rfl rfl 0 rfl rfl rfl [0, 1, 2, 3] [4, 5] rfl rfl rfl rfl (by decide) jRm_ok (Nat.le_of_ble_eq_true rfl) ⟨(Nat.le_of_ble_eq_true rfl), (Nat.le_of_ble_eq_true rfl)⟩ [2, 3, 4, 5, 0, 1] rfl rfl ?_
        refine r_ishl 76 dX3_turn_76 ?_
        refine r_ti (y := mI (one (tnN (sR S) (sC S) r))) (mI_on (by omega)) ?_
        refine r_goto 77 81 dX3_turn_77 (by decide) ?_
        refine r_ior 81 dX3_turn_81 ?_
        refine r_ti (y := mI (twB S p (r + 1))) (by first | exact tw_t hS (by omega) ((mI_bit1 (by omega)).mp c_67) | exact tw_f (fun z => c_67 ((mI_bit1 (by omega)).mpr z))) ?_
        refine r_iastore (ws2 := [_, _, _, (_, .inl (_, _, .inl _)), _, _]) 82 dX3_turn_82 3 rfl (vp_in_nI (by omega) (by decide)) (nI_clamp (by omega)) rfl ?_
        refine r_arrI (f2 := upd (tsK S p) (tnN (sR S) (sC S) p) (mI (twB S p (r + 1)))) (ws2 := [_, _, _, (_, .inl (_, _, .inl _)), _, _]) 3 rfl (fun j _ => upd_ow j) rfl ?_
        refine r_iinc (lv2 := [_, _, _, _]) 83 dX3_turn_83 rfl (jinc) (by decide) rfl rfl ?_
        refine r_goto 86 41 dX3_turn_86 (by decide) ?_
        exact ih (r + 1) (by omega) (by omega) K
set_option maxRecDepth 100000 in
set_option maxHeartbeats 400000 in
theorem lp_mtuO {G : jG} {d : Nat} {m : Nat} {A : Nat → Nat} {S : qS} {pm se th ka iw : Int32} (hS : wf S) : ∀ (n : Nat) (p : Nat), sP S + 1 ≤ p + n → p ≤ sP S → Rn G RX3 "turn" cX3_turn 4 (some .int) (jR (d + 2) 0 0) jX0 (jE G (jD (some (.int (nI (sP (tuS S))))) (wX G m A (tuS S) pm se th ka iw ++ [(A 10, .inl (G.2.2.1, 16, .inl (fun p => fI (sF S p)))), (A 11, .inl (G.2.2.1, 16, .inl (fun p => mI (sW S p))))])) 0 0) 0 0 6 [some (.ref m), some (.int (nI p)), none, none] [] (wM G m A (nI (sR S)) (nI (sC S)) (nI (sK S)) (nI (sO S)) (nI (sN S)) pm se th ka iw (fun f => mI (sE S f)) (tfK S p) (tsK S p) ++ [(A 10, .inl (G.2.2.1, 16, .inl (fun p => fI (sF S p)))), (A 11, .inl (G.2.2.1, 16, .inl (fun p => mI (sW S p))))]) := by
  intro n
  induction n with
  | zero => intros; omega
  | succ n ih =>
    intro p h1 h2
    have h16 := hS.p16
    refine r_iload_n 6 dX3_turn_6 rfl ?_
    refine r_aload_n 7 dX3_turn_7 rfl ?_
    refine r_callVD (ws2 := [_, _, _, _, _, _]) (wr := [_, _]) 8 s_X3_75 dX3_turn_8 (m_placesR) rfl rfl 0 rfl rfl rfl [0, 1, 2, 3] [4, 5] rfl rfl rfl rfl (by decide) jRm_ok (Nat.le_of_ble_eq_true rfl) ⟨(Nat.le_of_ble_eq_true rfl), (Nat.le_of_ble_eq_true rfl)⟩ [2, 3, 4, 5, 0, 1] rfl rfl ?_
    refine r_icmp_geN 11 95 dX3_turn_11 (by decide) (by omega) (by omega) (fun c_11 => ?_) (fun c_11 => ?_)
    · -- 11T
      obtain rfl : p = sP S := by omega
      refine r_arrI (f2 := fun j => fI (tuF S (sP S) j)) (ws2 := [_, _, (_, .inl (_, _, .inl _)), _, _, _]) 2 rfl (fun j _ => tfK_e hS j) rfl ?_
      refine r_arrI (f2 := fun j => mI (tuW S j)) (ws2 := [_, _, _, (_, .inl (_, _, .inl _)), _, _]) 3 rfl (fun j _ => tsK_e hS j) rfl ?_
      refine r_aload_n 95 dX3_turn_95 rfl ?_
      refine r_get 96 f_X3_69 dX3_turn_96 0 rfl rfl ?_
      refine r_istore_n (lv2 := [_, _, none, none]) 99 dX3_turn_99 (by decide) rfl rfl ?_
      refine r_aload_n 100 dX3_turn_100 rfl ?_
      refine r_aload_n 101 dX3_turn_101 rfl ?_
      refine r_get 102 f_X3_72 dX3_turn_102 0 rfl rfl ?_
      refine r_put (ws2 := [(_, .inr (_, [_, _, _, _, _, _, _, _, _, _, _, _, _, _, _, _, _, _, _, _, _, _, _, _])), _, _, _, _, _]) 105 p_X3_69 dX3_turn_105 0 rfl rfl rfl (Nat.le_of_ble_eq_true rfl) rfl ?_
      refine r_aload_n 108 dX3_turn_108 rfl ?_
      refine r_iload_n 109 dX3_turn_109 rfl ?_
      refine r_put (ws2 := [(_, .inr (_, [_, _, _, _, _, _, _, _, _, _, _, _, _, _, _, _, _, _, _, _, _, _, _, _])), _, _, _, _, _]) 110 p_X3_72 dX3_turn_110 0 rfl rfl rfl (Nat.le_of_ble_eq_true rfl) rfl ?_
      refine r_aload_n 113 dX3_turn_113 rfl ?_
      refine r_callVD (ws2 := [_, _, _, _, _, _]) (wr := [_, _]) 114 s_X3_75 dX3_turn_114 (m_places (S := tuS S)) rfl rfl 0 rfl rfl rfl [0, 1, 2, 3] [4, 5] rfl rfl rfl rfl (by decide) jRm_ok (Nat.le_of_ble_eq_true rfl) ⟨(Nat.le_of_ble_eq_true rfl), (Nat.le_of_ble_eq_true rfl)⟩ [2, 3, 4, 5, 0, 1] rfl rfl ?_
      exact r_iret 117 dX3_turn_117 rfl rfl (Nat.le_of_ble_eq_true rfl) (Nat.le_of_ble_eq_true rfl) (jd rfl)
    · -- 11F
      have htp := (tn_in hS (show p < sP S by omega)).1
      refine r_aload_n 14 dX3_turn_14 rfl ?_
      refine r_iload_n 15 dX3_turn_15 rfl ?_
      refine r_callVD (ws2 := [_, _, _, _, _, _]) (wr := [_, _]) 16 s_X3_195 dX3_turn_16 (m_turned hS (show p < sP S by omega)) rfl rfl 0 rfl rfl rfl [0, 1, 2, 3] [4, 5] rfl rfl rfl rfl (by decide) jRm_ok (Nat.le_of_ble_eq_true rfl) ⟨(Nat.le_of_ble_eq_true rfl), (Nat.le_of_ble_eq_true rfl)⟩ [2, 3, 4, 5, 0, 1] rfl rfl ?_
      refine r_istore_n (lv2 := [_, _, _, none]) 19 dX3_turn_19 (by decide) rfl rfl ?_
      refine r_aload_n 20 dX3_turn_20 rfl ?_
      refine r_get 21 f_X3_13 dX3_turn_21 0 rfl rfl ?_
      refine r_iload_n 24 dX3_turn_24 rfl ?_
      refine r_aload_n 25 dX3_turn_25 rfl ?_
      refine r_get 26 f_X3_42 dX3_turn_26 0 rfl rfl ?_
      refine r_iload_n 29 dX3_turn_29 rfl ?_
      refine r_iaload 30 dX3_turn_30 4 rfl (vp_in_nI (by omega) (by decide)) (nI_clamp (by omega)) ?_
      refine r_iastore (ws2 := [_, _, (_, .inl (_, _, .inl _)), _, _, _]) 31 dX3_turn_31 2 rfl (vp_in_nI (by omega) (by decide)) (nI_clamp (by omega)) rfl ?_
      refine r_arrI (f2 := tfK S (p + 1)) (ws2 := [_, _, (_, .inl (_, _, .inl _)), _, _, _]) 2 rfl (fun j _ => tfK_s hS (by omega) j) rfl ?_
      refine r_aload_n 32 dX3_turn_32 rfl ?_
      refine r_get 33 f_X3_16 dX3_turn_33 0 rfl rfl ?_
      refine r_iload_n 36 dX3_turn_36 rfl ?_
      refine r_iconst (v := 0) 37 dX3_turn_37 (by decide) ?_
      refine r_iastore (ws2 := [_, _, _, (_, .inl (_, _, .inl _)), _, _]) 38 dX3_turn_38 3 rfl (vp_in_nI (by omega) (by decide)) (nI_clamp (by omega)) rfl ?_
      refine r_arrI (f2 := upd (tsK S p) (tnN (sR S) (sC S) p) (mI (twB S p (0)))) (ws2 := [_, _, _, (_, .inl (_, _, .inl _)), _, _]) 3 rfl (fun j _ => by rw [← tw_0]) rfl ?_
      refine r_iconst (v := 0) 39 dX3_turn_39 (by decide) ?_
      refine r_ti (y := nI 0) (nI_0.symm) ?_
      refine r_istore_n (lv2 := [_, _, _, _]) 40 dX3_turn_40 (by decide) rfl rfl ?_
      refine lp_mtuI hS (p := p) (by omega) (sP S + 1) 0 (by omega) (by omega) ?_
      refine r_iinc (lv2 := [_, _, _, _]) 89 dX3_turn_89 rfl (jinc) (by decide) rfl rfl ?_
      refine r_goto 92 6 dX3_turn_92 (by decide) ?_
      refine r_arrI (f2 := tsK S (p + 1)) (ws2 := [_, _, _, (_, .inl (_, _, .inl _)), _, _]) 3 rfl (fun j _ => tsK_s hS (by omega) j) rfl ?_
      refine r_drop (lv2 := [_, _, none, _]) 2 rfl ?_
      refine r_drop (lv2 := [_, _, none, none]) 3 rfl ?_
      exact ih (p + 1) (by omega) (by omega)
set_option maxRecDepth 100000 in
set_option maxHeartbeats 400000 in
theorem m_turn {G : jG} {d : Nat} {m : Nat} {A : Nat → Nat} {S : qS} {pm se th ka iw : Int32} (hS : wf S) {hf hs : Nat → Int32} : Ct G yX3_turn cX3_turn 4 (some .int) (d + 2) 0 0 [.ref m] (wX G m A (S) pm se th ka iw ++ [(A 10, .inl (G.2.2.1, 16, .inl (hf))), (A 11, .inl (G.2.2.1, 16, .inl (hs)))]) (jD (some (.int (nI (sP (tuS S))))) (wX G m A (tuS S) pm se th ka iw ++ [(A 10, .inl (G.2.2.1, 16, .inl (fun p => fI (sF S p)))), (A 11, .inl (G.2.2.1, 16, .inl (fun p => mI (sW S p))))])) := by
  refine ct_of (by decide) (Nat.le_of_ble_eq_true rfl) (own := RX3) (nm := "turn") rfl rfl (lv := [some (.ref m), none, none, none]) rfl ?_
  refine r_aload_n 0 dX3_turn_0 rfl ?_
  refine r_callVD (ws2 := [_, _, _, _, _, _]) (wr := []) 1 s_X3_192 dX3_turn_1 (m_keep) rfl rfl 0 rfl rfl rfl [0, 1, 2, 3, 4, 5] [] rfl rfl rfl rfl (by decide) jRm_ok (Nat.le_of_ble_eq_true rfl) ⟨(Nat.le_of_ble_eq_true rfl), (Nat.le_of_ble_eq_true rfl)⟩ [0, 1, 2, 3, 4, 5] rfl rfl ?_
  refine r_iconst (v := 0) 4 dX3_turn_4 (by decide) ?_
  refine r_ti (y := nI 0) (nI_0.symm) ?_
  refine r_istore_n (lv2 := [_, _, none, none]) 5 dX3_turn_5 (by decide) rfl rfl ?_
  refine r_arrI (f2 := tfK S 0) (ws2 := [_, _, (_, .inl (_, _, .inl _)), _, _, _]) 2 rfl (fun j _ => tfK_0 j) rfl ?_
  refine r_arrI (f2 := tsK S 0) (ws2 := [_, _, _, (_, .inl (_, _, .inl _)), _, _]) 3 rfl (fun j _ => tsK_0 j) rfl ?_
  exact lp_mtuO hS (sP S + 1) 0 (by omega) (by omega)
set_option maxRecDepth 100000 in
set_option maxHeartbeats 400000 in
theorem m_pass1 {G : jG} {d : Nat} {m : Nat} {A : Nat → Nat} {r c k0 o n0 pm se th : Int32} {fo fa sw kp : Nat → Int32} {a : Nat} (ha : a < 120) {v : Int32} : Ct G yX3_pass cX3_pass 3 (some .int) (d + 1) 0 0 [.ref m, .int v] (wM G m A r c k0 o n0 pm se th (nI a) 1 fo fa sw ++ [(A 12, .inl (G.2.2.1, 120, .inl (kp)))]) (jD (some (.int v)) (wM G m A r c k0 o n0 pm se th (nI (a + 1)) 1 fo fa sw ++ [(A 12, .inl (G.2.2.1, 120, .inl (upd kp a v)))])) := by
  refine ct_of (by decide) (Nat.le_of_ble_eq_true rfl) (own := RX3) (nm := "pass") rfl rfl (lv := [some (.ref m), some (.int v), none]) rfl ?_
  refine r_aload_n 0 dX3_pass_0 rfl ?_
  refine r_get 1 f_X3_206 dX3_pass_1 0 rfl rfl ?_
  refine r_if_eqF 4 11 dX3_pass_4 (by decide) (by decide) ?_
  refine r_iload_n 7 dX3_pass_7 rfl ?_
  refine r_goto 8 20 dX3_pass_8 (by decide) ?_
  refine r_istore_n (lv2 := [_, _, _]) 20 dX3_pass_20 (by decide) rfl rfl ?_
  refine r_aload_n 21 dX3_pass_21 rfl ?_
  refine r_get 22 f_X3_48 dX3_pass_22 0 rfl rfl ?_
  refine r_aload_n 25 dX3_pass_25 rfl ?_
  refine r_get 26 f_X3_210 dX3_pass_26 0 rfl rfl ?_
  refine r_iload_n 29 dX3_pass_29 rfl ?_
  refine r_iastore (ws2 := [_, _, _, _, (_, .inl (_, _, .inl _))]) 30 dX3_pass_30 4 rfl (vp_in_nI (by omega) (by decide)) (nI_clamp (by omega)) rfl ?_
  refine r_aload_n 31 dX3_pass_31 rfl ?_
  refine r_dup 32 dX3_pass_32 rfl ?_
  refine r_get 33 f_X3_210 dX3_pass_33 0 rfl rfl ?_
  refine r_iconst (v := 1) 36 dX3_pass_36 (by decide) ?_
  refine r_iadd 37 dX3_pass_37 ?_
  refine r_ti (y := nI (a + 1)) (nI_1 _) ?_
  refine r_put (ws2 := [(_, .inr (_, [_, _, _, _, _, _, _, _, _, _, _, _, _, _, _, _, _, _, _, _, _, _, _, _])), _, _, _, _]) 38 p_X3_210 dX3_pass_38 0 rfl rfl rfl (Nat.le_of_ble_eq_true rfl) rfl ?_
  refine r_iload_n 41 dX3_pass_41 rfl ?_
  exact r_iret 42 dX3_pass_42 rfl rfl (Nat.le_of_ble_eq_true rfl) (Nat.le_of_ble_eq_true rfl) (jd rfl)
set_option maxRecDepth 100000 in
set_option maxHeartbeats 400000 in
theorem m_pass0 {G : jG} {d : Nat} {m : Nat} {A : Nat → Nat} {r c k0 o n0 pm se th : Int32} {fo fa sw kp : Nat → Int32} {a : Nat} (ha : a < 120) {v : Int32} : Ct G yX3_pass cX3_pass 3 (some .int) (d + 1) 0 0 [.ref m, .int v] (wM G m A r c k0 o n0 pm se th (nI a) 0 fo fa sw ++ [(A 12, .inl (G.2.2.1, 120, .inl (kp)))]) (jD (some (.int (kp a))) (wM G m A r c k0 o n0 pm se th (nI (a + 1)) 0 fo fa sw ++ [(A 12, .inl (G.2.2.1, 120, .inl (kp)))])) := by
  refine ct_of (by decide) (Nat.le_of_ble_eq_true rfl) (own := RX3) (nm := "pass") rfl rfl (lv := [some (.ref m), some (.int v), none]) rfl ?_
  refine r_aload_n 0 dX3_pass_0 rfl ?_
  refine r_get 1 f_X3_206 dX3_pass_1 0 rfl rfl ?_
  refine r_if_eqT 4 11 dX3_pass_4 (by decide) (by decide) ?_
  refine r_aload_n 11 dX3_pass_11 rfl ?_
  refine r_get 12 f_X3_48 dX3_pass_12 0 rfl rfl ?_
  refine r_aload_n 15 dX3_pass_15 rfl ?_
  refine r_get 16 f_X3_210 dX3_pass_16 0 rfl rfl ?_
  refine r_iaload 19 dX3_pass_19 4 rfl (vp_in_nI (by omega) (by decide)) (nI_clamp (by omega)) ?_
  refine r_istore_n (lv2 := [_, _, _]) 20 dX3_pass_20 (by decide) rfl rfl ?_
  refine r_aload_n 21 dX3_pass_21 rfl ?_
  refine r_get 22 f_X3_48 dX3_pass_22 0 rfl rfl ?_
  refine r_aload_n 25 dX3_pass_25 rfl ?_
  refine r_get 26 f_X3_210 dX3_pass_26 0 rfl rfl ?_
  refine r_iload_n 29 dX3_pass_29 rfl ?_
  refine r_iastore (ws2 := [_, _, _, _, (_, .inl (_, _, .inl _))]) 30 dX3_pass_30 4 rfl (vp_in_nI (by omega) (by decide)) (nI_clamp (by omega)) rfl ?_
  refine r_arrI (f2 := kp) (ws2 := [_, _, _, _, (_, .inl (_, _, .inl _))]) 4 rfl (fun j _ => upd_id j) rfl ?_
  refine r_aload_n 31 dX3_pass_31 rfl ?_
  refine r_dup 32 dX3_pass_32 rfl ?_
  refine r_get 33 f_X3_210 dX3_pass_33 0 rfl rfl ?_
  refine r_iconst (v := 1) 36 dX3_pass_36 (by decide) ?_
  refine r_iadd 37 dX3_pass_37 ?_
  refine r_ti (y := nI (a + 1)) (nI_1 _) ?_
  refine r_put (ws2 := [(_, .inr (_, [_, _, _, _, _, _, _, _, _, _, _, _, _, _, _, _, _, _, _, _, _, _, _, _])), _, _, _, _]) 38 p_X3_210 dX3_pass_38 0 rfl rfl rfl (Nat.le_of_ble_eq_true rfl) rfl ?_
  refine r_iload_n 41 dX3_pass_41 rfl ?_
  exact r_iret 42 dX3_pass_42 rfl rfl (Nat.le_of_ble_eq_true rfl) (Nat.le_of_ble_eq_true rfl) (jd rfl)
set_option maxRecDepth 100000 in
set_option maxHeartbeats 400000 in
theorem m_passW0 {G : jG} {d : Nat} {m : Nat} {A : Nat → Nat} {S : qS} {pm se th : Int32} {kp : Nat → Int32} : Ct G yX3_passAll cX3_passAll 2 none (d + 2) 0 0 [.ref m] (wX G m A (S) pm se th (nI 0) 1 ++ [(A 12, .inl (G.2.2.1, 120, .inl (kp)))]) (jD none (wX G m A (S) pm se th (nI 41) 1 ++ [(A 12, .inl (G.2.2.1, 120, .inl (kpW S 0 kp 41)))])) := by
  refine ct_of (by decide) (Nat.le_of_ble_eq_true rfl) (own := RX3) (nm := "passAll") rfl rfl (lv := [some (.ref m), none]) rfl ?_
  refine r_arrI (f2 := kpW S 0 kp 0) (ws2 := [_, _, _, _, (_, .inl (_, _, .inl _))]) 4 rfl (fun j _ => kpW_0 (S := S) (lo := 0) j) rfl ?_
  refine r_aload_n 0 dX3_passAll_0 rfl ?_
  refine r_aload_n 1 dX3_passAll_1 rfl ?_
  refine r_aload_n 2 dX3_passAll_2 rfl ?_
  refine r_get 3 f_X3_69 dX3_passAll_3 0 rfl rfl ?_
  refine r_callVD (ws2 := [_, _, _, _, _]) (wr := []) 6 s_X3_213 dX3_passAll_6 (m_pass1 (a := 0) (by decide)) rfl rfl 0 rfl rfl rfl [0, 1, 2, 3, 4] [] rfl rfl rfl rfl (by decide) jRm_ok (Nat.le_of_ble_eq_true rfl) ⟨(Nat.le_of_ble_eq_true rfl), (Nat.le_of_ble_eq_true rfl)⟩ [0, 1, 2, 3, 4] rfl rfl ?_
  refine r_arrI (f2 := kpW S 0 kp 1) (ws2 := [_, _, _, _, (_, .inl (_, _, .inl _))]) 4 rfl (fun j _ => kpW_s (lo := 0) (k := 0) rfl j) rfl ?_
  refine r_put (ws2 := [(_, .inr (_, [_, _, _, _, _, _, _, _, _, _, _, _, _, _, _, _, _, _, _, _, _, _, _, _])), _, _, _, _]) 9 p_X3_69 dX3_passAll_9 0 rfl rfl rfl (Nat.le_of_ble_eq_true rfl) rfl ?_
  refine r_aload_n 12 dX3_passAll_12 rfl ?_
  refine r_aload_n 13 dX3_passAll_13 rfl ?_
  refine r_aload_n 14 dX3_passAll_14 rfl ?_
  refine r_get 15 f_X3_72 dX3_passAll_15 0 rfl rfl ?_
  refine r_callVD (ws2 := [_, _, _, _, _]) (wr := []) 18 s_X3_213 dX3_passAll_18 (m_pass1 (a := 1) (by decide)) rfl rfl 0 rfl rfl rfl [0, 1, 2, 3, 4] [] rfl rfl rfl rfl (by decide) jRm_ok (Nat.le_of_ble_eq_true rfl) ⟨(Nat.le_of_ble_eq_true rfl), (Nat.le_of_ble_eq_true rfl)⟩ [0, 1, 2, 3, 4] rfl rfl ?_
  refine r_arrI (f2 := kpW S 0 kp 2) (ws2 := [_, _, _, _, (_, .inl (_, _, .inl _))]) 4 rfl (fun j _ => kpW_s (lo := 0) (k := 1) rfl j) rfl ?_
  refine r_put (ws2 := [(_, .inr (_, [_, _, _, _, _, _, _, _, _, _, _, _, _, _, _, _, _, _, _, _, _, _, _, _])), _, _, _, _]) 21 p_X3_72 dX3_passAll_21 0 rfl rfl rfl (Nat.le_of_ble_eq_true rfl) rfl ?_
  refine r_aload_n 24 dX3_passAll_24 rfl ?_
  refine r_aload_n 25 dX3_passAll_25 rfl ?_
  refine r_aload_n 26 dX3_passAll_26 rfl ?_
  refine r_get 27 f_X3_55 dX3_passAll_27 0 rfl rfl ?_
  refine r_callVD (ws2 := [_, _, _, _, _]) (wr := []) 30 s_X3_213 dX3_passAll_30 (m_pass1 (a := 2) (by decide)) rfl rfl 0 rfl rfl rfl [0, 1, 2, 3, 4] [] rfl rfl rfl rfl (by decide) jRm_ok (Nat.le_of_ble_eq_true rfl) ⟨(Nat.le_of_ble_eq_true rfl), (Nat.le_of_ble_eq_true rfl)⟩ [0, 1, 2, 3, 4] rfl rfl ?_
  refine r_arrI (f2 := kpW S 0 kp 3) (ws2 := [_, _, _, _, (_, .inl (_, _, .inl _))]) 4 rfl (fun j _ => kpW_s (lo := 0) (k := 2) rfl j) rfl ?_
  refine r_put (ws2 := [(_, .inr (_, [_, _, _, _, _, _, _, _, _, _, _, _, _, _, _, _, _, _, _, _, _, _, _, _])), _, _, _, _]) 33 p_X3_55 dX3_passAll_33 0 rfl rfl rfl (Nat.le_of_ble_eq_true rfl) rfl ?_
  refine r_aload_n 36 dX3_passAll_36 rfl ?_
  refine r_aload_n 37 dX3_passAll_37 rfl ?_
  refine r_aload_n 38 dX3_passAll_38 rfl ?_
  refine r_get 39 f_X3_59 dX3_passAll_39 0 rfl rfl ?_
  refine r_callVD (ws2 := [_, _, _, _, _]) (wr := []) 42 s_X3_213 dX3_passAll_42 (m_pass1 (a := 3) (by decide)) rfl rfl 0 rfl rfl rfl [0, 1, 2, 3, 4] [] rfl rfl rfl rfl (by decide) jRm_ok (Nat.le_of_ble_eq_true rfl) ⟨(Nat.le_of_ble_eq_true rfl), (Nat.le_of_ble_eq_true rfl)⟩ [0, 1, 2, 3, 4] rfl rfl ?_
  refine r_arrI (f2 := kpW S 0 kp 4) (ws2 := [_, _, _, _, (_, .inl (_, _, .inl _))]) 4 rfl (fun j _ => kpW_s (lo := 0) (k := 3) rfl j) rfl ?_
  refine r_put (ws2 := [(_, .inr (_, [_, _, _, _, _, _, _, _, _, _, _, _, _, _, _, _, _, _, _, _, _, _, _, _])), _, _, _, _]) 45 p_X3_59 dX3_passAll_45 0 rfl rfl rfl (Nat.le_of_ble_eq_true rfl) rfl ?_
  refine r_aload_n 48 dX3_passAll_48 rfl ?_
  refine r_aload_n 49 dX3_passAll_49 rfl ?_
  refine r_aload_n 50 dX3_passAll_50 rfl ?_
  refine r_get 51 f_X3_62 dX3_passAll_51 0 rfl rfl ?_
  refine r_callVD (ws2 := [_, _, _, _, _]) (wr := []) 54 s_X3_213 dX3_passAll_54 (m_pass1 (a := 4) (by decide)) rfl rfl 0 rfl rfl rfl [0, 1, 2, 3, 4] [] rfl rfl rfl rfl (by decide) jRm_ok (Nat.le_of_ble_eq_true rfl) ⟨(Nat.le_of_ble_eq_true rfl), (Nat.le_of_ble_eq_true rfl)⟩ [0, 1, 2, 3, 4] rfl rfl ?_
  refine r_arrI (f2 := kpW S 0 kp 5) (ws2 := [_, _, _, _, (_, .inl (_, _, .inl _))]) 4 rfl (fun j _ => kpW_s (lo := 0) (k := 4) rfl j) rfl ?_
  refine r_put (ws2 := [(_, .inr (_, [_, _, _, _, _, _, _, _, _, _, _, _, _, _, _, _, _, _, _, _, _, _, _, _])), _, _, _, _]) 57 p_X3_62 dX3_passAll_57 0 rfl rfl rfl (Nat.le_of_ble_eq_true rfl) rfl ?_
  refine r_iconst (v := 0) 60 dX3_passAll_60 (by decide) ?_
  refine r_istore_n (lv2 := [_, _]) 61 dX3_passAll_61 (by decide) rfl rfl ?_
  refine r_iload_n 62 dX3_passAll_62 rfl ?_
  refine r_iconst (v := 4) 63 dX3_passAll_63 (by decide) ?_
  refine r_icmp_geF 64 89 dX3_passAll_64 (by decide) (by decide) ?_
  refine r_aload_n 67 dX3_passAll_67 rfl ?_
  refine r_get 68 f_X3_7 dX3_passAll_68 0 rfl rfl ?_
  refine r_iload_n 71 dX3_passAll_71 rfl ?_
  refine r_aload_n 72 dX3_passAll_72 rfl ?_
  refine r_aload_n 73 dX3_passAll_73 rfl ?_
  refine r_get 74 f_X3_7 dX3_passAll_74 0 rfl rfl ?_
  refine r_iload_n 77 dX3_passAll_77 rfl ?_
  refine r_iaload 78 dX3_passAll_78 1 rfl (vp_lit (by decide)) (show Int32.toNatClampNeg 0 = 0 by decide) ?_
  refine r_callVD (ws2 := [_, _, _, _, _]) (wr := []) 79 s_X3_213 dX3_passAll_79 (m_pass1 (a := 5) (by decide)) rfl rfl 0 rfl rfl rfl [0, 1, 2, 3, 4] [] rfl rfl rfl rfl (by decide) jRm_ok (Nat.le_of_ble_eq_true rfl) ⟨(Nat.le_of_ble_eq_true rfl), (Nat.le_of_ble_eq_true rfl)⟩ [0, 1, 2, 3, 4] rfl rfl ?_
  refine r_arrI (f2 := kpW S 0 kp 6) (ws2 := [_, _, _, _, (_, .inl (_, _, .inl _))]) 4 rfl (fun j _ => kpW_s (lo := 0) (k := 5) rfl j) rfl ?_
  refine r_iastore (ws2 := [_, (_, .inl (_, _, .inl _)), _, _, _]) 82 dX3_passAll_82 1 rfl (vp_lit (by decide)) (show Int32.toNatClampNeg 0 = 0 by decide) rfl ?_
  refine r_arrI (f2 := fun f => mI (sE S f)) (ws2 := [_, (_, .inl (_, _, .inl _)), _, _, _]) 1 rfl (fun j _ => upd_id j) rfl ?_
  refine r_iinc (v := 1) (lv2 := [_, _]) 83 dX3_passAll_83 rfl (by decide) (by decide) rfl rfl ?_
  refine r_goto 86 62 dX3_passAll_86 (by decide) ?_
  refine r_iload_n 62 dX3_passAll_62 rfl ?_
  refine r_iconst (v := 4) 63 dX3_passAll_63 (by decide) ?_
  refine r_icmp_geF 64 89 dX3_passAll_64 (by decide) (by decide) ?_
  refine r_aload_n 67 dX3_passAll_67 rfl ?_
  refine r_get 68 f_X3_7 dX3_passAll_68 0 rfl rfl ?_
  refine r_iload_n 71 dX3_passAll_71 rfl ?_
  refine r_aload_n 72 dX3_passAll_72 rfl ?_
  refine r_aload_n 73 dX3_passAll_73 rfl ?_
  refine r_get 74 f_X3_7 dX3_passAll_74 0 rfl rfl ?_
  refine r_iload_n 77 dX3_passAll_77 rfl ?_
  refine r_iaload 78 dX3_passAll_78 1 rfl (vp_lit (by decide)) (show Int32.toNatClampNeg 1 = 1 by decide) ?_
  refine r_callVD (ws2 := [_, _, _, _, _]) (wr := []) 79 s_X3_213 dX3_passAll_79 (m_pass1 (a := 6) (by decide)) rfl rfl 0 rfl rfl rfl [0, 1, 2, 3, 4] [] rfl rfl rfl rfl (by decide) jRm_ok (Nat.le_of_ble_eq_true rfl) ⟨(Nat.le_of_ble_eq_true rfl), (Nat.le_of_ble_eq_true rfl)⟩ [0, 1, 2, 3, 4] rfl rfl ?_
  refine r_arrI (f2 := kpW S 0 kp 7) (ws2 := [_, _, _, _, (_, .inl (_, _, .inl _))]) 4 rfl (fun j _ => kpW_s (lo := 0) (k := 6) rfl j) rfl ?_
  refine r_iastore (ws2 := [_, (_, .inl (_, _, .inl _)), _, _, _]) 82 dX3_passAll_82 1 rfl (vp_lit (by decide)) (show Int32.toNatClampNeg 1 = 1 by decide) rfl ?_
  refine r_arrI (f2 := fun f => mI (sE S f)) (ws2 := [_, (_, .inl (_, _, .inl _)), _, _, _]) 1 rfl (fun j _ => upd_id j) rfl ?_
  refine r_iinc (v := 2) (lv2 := [_, _]) 83 dX3_passAll_83 rfl (by decide) (by decide) rfl rfl ?_
  refine r_goto 86 62 dX3_passAll_86 (by decide) ?_
  refine r_iload_n 62 dX3_passAll_62 rfl ?_
  refine r_iconst (v := 4) 63 dX3_passAll_63 (by decide) ?_
  refine r_icmp_geF 64 89 dX3_passAll_64 (by decide) (by decide) ?_
  refine r_aload_n 67 dX3_passAll_67 rfl ?_
  refine r_get 68 f_X3_7 dX3_passAll_68 0 rfl rfl ?_
  refine r_iload_n 71 dX3_passAll_71 rfl ?_
  refine r_aload_n 72 dX3_passAll_72 rfl ?_
  refine r_aload_n 73 dX3_passAll_73 rfl ?_
  refine r_get 74 f_X3_7 dX3_passAll_74 0 rfl rfl ?_
  refine r_iload_n 77 dX3_passAll_77 rfl ?_
  refine r_iaload 78 dX3_passAll_78 1 rfl (vp_lit (by decide)) (show Int32.toNatClampNeg 2 = 2 by decide) ?_
  refine r_callVD (ws2 := [_, _, _, _, _]) (wr := []) 79 s_X3_213 dX3_passAll_79 (m_pass1 (a := 7) (by decide)) rfl rfl 0 rfl rfl rfl [0, 1, 2, 3, 4] [] rfl rfl rfl rfl (by decide) jRm_ok (Nat.le_of_ble_eq_true rfl) ⟨(Nat.le_of_ble_eq_true rfl), (Nat.le_of_ble_eq_true rfl)⟩ [0, 1, 2, 3, 4] rfl rfl ?_
  refine r_arrI (f2 := kpW S 0 kp 8) (ws2 := [_, _, _, _, (_, .inl (_, _, .inl _))]) 4 rfl (fun j _ => kpW_s (lo := 0) (k := 7) rfl j) rfl ?_
  refine r_iastore (ws2 := [_, (_, .inl (_, _, .inl _)), _, _, _]) 82 dX3_passAll_82 1 rfl (vp_lit (by decide)) (show Int32.toNatClampNeg 2 = 2 by decide) rfl ?_
  refine r_arrI (f2 := fun f => mI (sE S f)) (ws2 := [_, (_, .inl (_, _, .inl _)), _, _, _]) 1 rfl (fun j _ => upd_id j) rfl ?_
  refine r_iinc (v := 3) (lv2 := [_, _]) 83 dX3_passAll_83 rfl (by decide) (by decide) rfl rfl ?_
  refine r_goto 86 62 dX3_passAll_86 (by decide) ?_
  refine r_iload_n 62 dX3_passAll_62 rfl ?_
  refine r_iconst (v := 4) 63 dX3_passAll_63 (by decide) ?_
  refine r_icmp_geF 64 89 dX3_passAll_64 (by decide) (by decide) ?_
  refine r_aload_n 67 dX3_passAll_67 rfl ?_
  refine r_get 68 f_X3_7 dX3_passAll_68 0 rfl rfl ?_
  refine r_iload_n 71 dX3_passAll_71 rfl ?_
  refine r_aload_n 72 dX3_passAll_72 rfl ?_
  refine r_aload_n 73 dX3_passAll_73 rfl ?_
  refine r_get 74 f_X3_7 dX3_passAll_74 0 rfl rfl ?_
  refine r_iload_n 77 dX3_passAll_77 rfl ?_
  refine r_iaload 78 dX3_passAll_78 1 rfl (vp_lit (by decide)) (show Int32.toNatClampNeg 3 = 3 by decide) ?_
  refine r_callVD (ws2 := [_, _, _, _, _]) (wr := []) 79 s_X3_213 dX3_passAll_79 (m_pass1 (a := 8) (by decide)) rfl rfl 0 rfl rfl rfl [0, 1, 2, 3, 4] [] rfl rfl rfl rfl (by decide) jRm_ok (Nat.le_of_ble_eq_true rfl) ⟨(Nat.le_of_ble_eq_true rfl), (Nat.le_of_ble_eq_true rfl)⟩ [0, 1, 2, 3, 4] rfl rfl ?_
  refine r_arrI (f2 := kpW S 0 kp 9) (ws2 := [_, _, _, _, (_, .inl (_, _, .inl _))]) 4 rfl (fun j _ => kpW_s (lo := 0) (k := 8) rfl j) rfl ?_
  refine r_iastore (ws2 := [_, (_, .inl (_, _, .inl _)), _, _, _]) 82 dX3_passAll_82 1 rfl (vp_lit (by decide)) (show Int32.toNatClampNeg 3 = 3 by decide) rfl ?_
  refine r_arrI (f2 := fun f => mI (sE S f)) (ws2 := [_, (_, .inl (_, _, .inl _)), _, _, _]) 1 rfl (fun j _ => upd_id j) rfl ?_
  refine r_iinc (v := 4) (lv2 := [_, _]) 83 dX3_passAll_83 rfl (by decide) (by decide) rfl rfl ?_
  refine r_goto 86 62 dX3_passAll_86 (by decide) ?_
  refine r_iload_n 62 dX3_passAll_62 rfl ?_
  refine r_iconst (v := 4) 63 dX3_passAll_63 (by decide) ?_
  refine r_icmp_geT 64 89 dX3_passAll_64 (by decide) (by decide) ?_
  refine r_iconst (v := 0) 89 dX3_passAll_89 (by decide) ?_
  refine r_istore_n (lv2 := [_, _]) 90 dX3_passAll_90 (by decide) rfl rfl ?_
  refine r_iload_n 91 dX3_passAll_91 rfl ?_
  refine r_bipush (v := 16) 92 dX3_passAll_92 (by decide) ?_
  refine r_icmp_geF 94 135 dX3_passAll_94 (by decide) (by decide) ?_
  refine r_aload_n 97 dX3_passAll_97 rfl ?_
  refine r_get 98 f_X3_13 dX3_passAll_98 0 rfl rfl ?_
  refine r_iload_n 101 dX3_passAll_101 rfl ?_
  refine r_aload_n 102 dX3_passAll_102 rfl ?_
  refine r_aload_n 103 dX3_passAll_103 rfl ?_
  refine r_get 104 f_X3_13 dX3_passAll_104 0 rfl rfl ?_
  refine r_iload_n 107 dX3_passAll_107 rfl ?_
  refine r_iaload 108 dX3_passAll_108 2 rfl (vp_lit (by decide)) (show Int32.toNatClampNeg 0 = 0 by decide) ?_
  refine r_callVD (ws2 := [_, _, _, _, _]) (wr := []) 109 s_X3_213 dX3_passAll_109 (m_pass1 (a := 9) (by decide)) rfl rfl 0 rfl rfl rfl [0, 1, 2, 3, 4] [] rfl rfl rfl rfl (by decide) jRm_ok (Nat.le_of_ble_eq_true rfl) ⟨(Nat.le_of_ble_eq_true rfl), (Nat.le_of_ble_eq_true rfl)⟩ [0, 1, 2, 3, 4] rfl rfl ?_
  refine r_arrI (f2 := kpW S 0 kp 10) (ws2 := [_, _, _, _, (_, .inl (_, _, .inl _))]) 4 rfl (fun j _ => kpW_s (lo := 0) (k := 9) rfl j) rfl ?_
  refine r_iastore (ws2 := [_, _, (_, .inl (_, _, .inl _)), _, _]) 112 dX3_passAll_112 2 rfl (vp_lit (by decide)) (show Int32.toNatClampNeg 0 = 0 by decide) rfl ?_
  refine r_arrI (f2 := fun p => fI (sF S p)) (ws2 := [_, _, (_, .inl (_, _, .inl _)), _, _]) 2 rfl (fun j _ => upd_id j) rfl ?_
  refine r_aload_n 113 dX3_passAll_113 rfl ?_
  refine r_get 114 f_X3_16 dX3_passAll_114 0 rfl rfl ?_
  refine r_iload_n 117 dX3_passAll_117 rfl ?_
  refine r_aload_n 118 dX3_passAll_118 rfl ?_
  refine r_aload_n 119 dX3_passAll_119 rfl ?_
  refine r_get 120 f_X3_16 dX3_passAll_120 0 rfl rfl ?_
  refine r_iload_n 123 dX3_passAll_123 rfl ?_
  refine r_iaload 124 dX3_passAll_124 3 rfl (vp_lit (by decide)) (show Int32.toNatClampNeg 0 = 0 by decide) ?_
  refine r_callVD (ws2 := [_, _, _, _, _]) (wr := []) 125 s_X3_213 dX3_passAll_125 (m_pass1 (a := 10) (by decide)) rfl rfl 0 rfl rfl rfl [0, 1, 2, 3, 4] [] rfl rfl rfl rfl (by decide) jRm_ok (Nat.le_of_ble_eq_true rfl) ⟨(Nat.le_of_ble_eq_true rfl), (Nat.le_of_ble_eq_true rfl)⟩ [0, 1, 2, 3, 4] rfl rfl ?_
  refine r_arrI (f2 := kpW S 0 kp 11) (ws2 := [_, _, _, _, (_, .inl (_, _, .inl _))]) 4 rfl (fun j _ => kpW_s (lo := 0) (k := 10) rfl j) rfl ?_
  refine r_iastore (ws2 := [_, _, _, (_, .inl (_, _, .inl _)), _]) 128 dX3_passAll_128 3 rfl (vp_lit (by decide)) (show Int32.toNatClampNeg 0 = 0 by decide) rfl ?_
  refine r_arrI (f2 := fun p => mI (sW S p)) (ws2 := [_, _, _, (_, .inl (_, _, .inl _)), _]) 3 rfl (fun j _ => upd_id j) rfl ?_
  refine r_iinc (v := 1) (lv2 := [_, _]) 129 dX3_passAll_129 rfl (by decide) (by decide) rfl rfl ?_
  refine r_goto 132 91 dX3_passAll_132 (by decide) ?_
  refine r_iload_n 91 dX3_passAll_91 rfl ?_
  refine r_bipush (v := 16) 92 dX3_passAll_92 (by decide) ?_
  refine r_icmp_geF 94 135 dX3_passAll_94 (by decide) (by decide) ?_
  refine r_aload_n 97 dX3_passAll_97 rfl ?_
  refine r_get 98 f_X3_13 dX3_passAll_98 0 rfl rfl ?_
  refine r_iload_n 101 dX3_passAll_101 rfl ?_
  refine r_aload_n 102 dX3_passAll_102 rfl ?_
  refine r_aload_n 103 dX3_passAll_103 rfl ?_
  refine r_get 104 f_X3_13 dX3_passAll_104 0 rfl rfl ?_
  refine r_iload_n 107 dX3_passAll_107 rfl ?_
  refine r_iaload 108 dX3_passAll_108 2 rfl (vp_lit (by decide)) (show Int32.toNatClampNeg 1 = 1 by decide) ?_
  refine r_callVD (ws2 := [_, _, _, _, _]) (wr := []) 109 s_X3_213 dX3_passAll_109 (m_pass1 (a := 11) (by decide)) rfl rfl 0 rfl rfl rfl [0, 1, 2, 3, 4] [] rfl rfl rfl rfl (by decide) jRm_ok (Nat.le_of_ble_eq_true rfl) ⟨(Nat.le_of_ble_eq_true rfl), (Nat.le_of_ble_eq_true rfl)⟩ [0, 1, 2, 3, 4] rfl rfl ?_
  refine r_arrI (f2 := kpW S 0 kp 12) (ws2 := [_, _, _, _, (_, .inl (_, _, .inl _))]) 4 rfl (fun j _ => kpW_s (lo := 0) (k := 11) rfl j) rfl ?_
  refine r_iastore (ws2 := [_, _, (_, .inl (_, _, .inl _)), _, _]) 112 dX3_passAll_112 2 rfl (vp_lit (by decide)) (show Int32.toNatClampNeg 1 = 1 by decide) rfl ?_
  refine r_arrI (f2 := fun p => fI (sF S p)) (ws2 := [_, _, (_, .inl (_, _, .inl _)), _, _]) 2 rfl (fun j _ => upd_id j) rfl ?_
  refine r_aload_n 113 dX3_passAll_113 rfl ?_
  refine r_get 114 f_X3_16 dX3_passAll_114 0 rfl rfl ?_
  refine r_iload_n 117 dX3_passAll_117 rfl ?_
  refine r_aload_n 118 dX3_passAll_118 rfl ?_
  refine r_aload_n 119 dX3_passAll_119 rfl ?_
  refine r_get 120 f_X3_16 dX3_passAll_120 0 rfl rfl ?_
  refine r_iload_n 123 dX3_passAll_123 rfl ?_
  refine r_iaload 124 dX3_passAll_124 3 rfl (vp_lit (by decide)) (show Int32.toNatClampNeg 1 = 1 by decide) ?_
  refine r_callVD (ws2 := [_, _, _, _, _]) (wr := []) 125 s_X3_213 dX3_passAll_125 (m_pass1 (a := 12) (by decide)) rfl rfl 0 rfl rfl rfl [0, 1, 2, 3, 4] [] rfl rfl rfl rfl (by decide) jRm_ok (Nat.le_of_ble_eq_true rfl) ⟨(Nat.le_of_ble_eq_true rfl), (Nat.le_of_ble_eq_true rfl)⟩ [0, 1, 2, 3, 4] rfl rfl ?_
  refine r_arrI (f2 := kpW S 0 kp 13) (ws2 := [_, _, _, _, (_, .inl (_, _, .inl _))]) 4 rfl (fun j _ => kpW_s (lo := 0) (k := 12) rfl j) rfl ?_
  refine r_iastore (ws2 := [_, _, _, (_, .inl (_, _, .inl _)), _]) 128 dX3_passAll_128 3 rfl (vp_lit (by decide)) (show Int32.toNatClampNeg 1 = 1 by decide) rfl ?_
  refine r_arrI (f2 := fun p => mI (sW S p)) (ws2 := [_, _, _, (_, .inl (_, _, .inl _)), _]) 3 rfl (fun j _ => upd_id j) rfl ?_
  refine r_iinc (v := 2) (lv2 := [_, _]) 129 dX3_passAll_129 rfl (by decide) (by decide) rfl rfl ?_
  refine r_goto 132 91 dX3_passAll_132 (by decide) ?_
  refine r_iload_n 91 dX3_passAll_91 rfl ?_
  refine r_bipush (v := 16) 92 dX3_passAll_92 (by decide) ?_
  refine r_icmp_geF 94 135 dX3_passAll_94 (by decide) (by decide) ?_
  refine r_aload_n 97 dX3_passAll_97 rfl ?_
  refine r_get 98 f_X3_13 dX3_passAll_98 0 rfl rfl ?_
  refine r_iload_n 101 dX3_passAll_101 rfl ?_
  refine r_aload_n 102 dX3_passAll_102 rfl ?_
  refine r_aload_n 103 dX3_passAll_103 rfl ?_
  refine r_get 104 f_X3_13 dX3_passAll_104 0 rfl rfl ?_
  refine r_iload_n 107 dX3_passAll_107 rfl ?_
  refine r_iaload 108 dX3_passAll_108 2 rfl (vp_lit (by decide)) (show Int32.toNatClampNeg 2 = 2 by decide) ?_
  refine r_callVD (ws2 := [_, _, _, _, _]) (wr := []) 109 s_X3_213 dX3_passAll_109 (m_pass1 (a := 13) (by decide)) rfl rfl 0 rfl rfl rfl [0, 1, 2, 3, 4] [] rfl rfl rfl rfl (by decide) jRm_ok (Nat.le_of_ble_eq_true rfl) ⟨(Nat.le_of_ble_eq_true rfl), (Nat.le_of_ble_eq_true rfl)⟩ [0, 1, 2, 3, 4] rfl rfl ?_
  refine r_arrI (f2 := kpW S 0 kp 14) (ws2 := [_, _, _, _, (_, .inl (_, _, .inl _))]) 4 rfl (fun j _ => kpW_s (lo := 0) (k := 13) rfl j) rfl ?_
  refine r_iastore (ws2 := [_, _, (_, .inl (_, _, .inl _)), _, _]) 112 dX3_passAll_112 2 rfl (vp_lit (by decide)) (show Int32.toNatClampNeg 2 = 2 by decide) rfl ?_
  refine r_arrI (f2 := fun p => fI (sF S p)) (ws2 := [_, _, (_, .inl (_, _, .inl _)), _, _]) 2 rfl (fun j _ => upd_id j) rfl ?_
  refine r_aload_n 113 dX3_passAll_113 rfl ?_
  refine r_get 114 f_X3_16 dX3_passAll_114 0 rfl rfl ?_
  refine r_iload_n 117 dX3_passAll_117 rfl ?_
  refine r_aload_n 118 dX3_passAll_118 rfl ?_
  refine r_aload_n 119 dX3_passAll_119 rfl ?_
  refine r_get 120 f_X3_16 dX3_passAll_120 0 rfl rfl ?_
  refine r_iload_n 123 dX3_passAll_123 rfl ?_
  refine r_iaload 124 dX3_passAll_124 3 rfl (vp_lit (by decide)) (show Int32.toNatClampNeg 2 = 2 by decide) ?_
  refine r_callVD (ws2 := [_, _, _, _, _]) (wr := []) 125 s_X3_213 dX3_passAll_125 (m_pass1 (a := 14) (by decide)) rfl rfl 0 rfl rfl rfl [0, 1, 2, 3, 4] [] rfl rfl rfl rfl (by decide) jRm_ok (Nat.le_of_ble_eq_true rfl) ⟨(Nat.le_of_ble_eq_true rfl), (Nat.le_of_ble_eq_true rfl)⟩ [0, 1, 2, 3, 4] rfl rfl ?_
  refine r_arrI (f2 := kpW S 0 kp 15) (ws2 := [_, _, _, _, (_, .inl (_, _, .inl _))]) 4 rfl (fun j _ => kpW_s (lo := 0) (k := 14) rfl j) rfl ?_
  refine r_iastore (ws2 := [_, _, _, (_, .inl (_, _, .inl _)), _]) 128 dX3_passAll_128 3 rfl (vp_lit (by decide)) (show Int32.toNatClampNeg 2 = 2 by decide) rfl ?_
  refine r_arrI (f2 := fun p => mI (sW S p)) (ws2 := [_, _, _, (_, .inl (_, _, .inl _)), _]) 3 rfl (fun j _ => upd_id j) rfl ?_
  refine r_iinc (v := 3) (lv2 := [_, _]) 129 dX3_passAll_129 rfl (by decide) (by decide) rfl rfl ?_
  refine r_goto 132 91 dX3_passAll_132 (by decide) ?_
  refine r_iload_n 91 dX3_passAll_91 rfl ?_
  refine r_bipush (v := 16) 92 dX3_passAll_92 (by decide) ?_
  refine r_icmp_geF 94 135 dX3_passAll_94 (by decide) (by decide) ?_
  refine r_aload_n 97 dX3_passAll_97 rfl ?_
  refine r_get 98 f_X3_13 dX3_passAll_98 0 rfl rfl ?_
  refine r_iload_n 101 dX3_passAll_101 rfl ?_
  refine r_aload_n 102 dX3_passAll_102 rfl ?_
  refine r_aload_n 103 dX3_passAll_103 rfl ?_
  refine r_get 104 f_X3_13 dX3_passAll_104 0 rfl rfl ?_
  refine r_iload_n 107 dX3_passAll_107 rfl ?_
  refine r_iaload 108 dX3_passAll_108 2 rfl (vp_lit (by decide)) (show Int32.toNatClampNeg 3 = 3 by decide) ?_
  refine r_callVD (ws2 := [_, _, _, _, _]) (wr := []) 109 s_X3_213 dX3_passAll_109 (m_pass1 (a := 15) (by decide)) rfl rfl 0 rfl rfl rfl [0, 1, 2, 3, 4] [] rfl rfl rfl rfl (by decide) jRm_ok (Nat.le_of_ble_eq_true rfl) ⟨(Nat.le_of_ble_eq_true rfl), (Nat.le_of_ble_eq_true rfl)⟩ [0, 1, 2, 3, 4] rfl rfl ?_
  refine r_arrI (f2 := kpW S 0 kp 16) (ws2 := [_, _, _, _, (_, .inl (_, _, .inl _))]) 4 rfl (fun j _ => kpW_s (lo := 0) (k := 15) rfl j) rfl ?_
  refine r_iastore (ws2 := [_, _, (_, .inl (_, _, .inl _)), _, _]) 112 dX3_passAll_112 2 rfl (vp_lit (by decide)) (show Int32.toNatClampNeg 3 = 3 by decide) rfl ?_
  refine r_arrI (f2 := fun p => fI (sF S p)) (ws2 := [_, _, (_, .inl (_, _, .inl _)), _, _]) 2 rfl (fun j _ => upd_id j) rfl ?_
  refine r_aload_n 113 dX3_passAll_113 rfl ?_
  refine r_get 114 f_X3_16 dX3_passAll_114 0 rfl rfl ?_
  refine r_iload_n 117 dX3_passAll_117 rfl ?_
  refine r_aload_n 118 dX3_passAll_118 rfl ?_
  refine r_aload_n 119 dX3_passAll_119 rfl ?_
  refine r_get 120 f_X3_16 dX3_passAll_120 0 rfl rfl ?_
  refine r_iload_n 123 dX3_passAll_123 rfl ?_
  refine r_iaload 124 dX3_passAll_124 3 rfl (vp_lit (by decide)) (show Int32.toNatClampNeg 3 = 3 by decide) ?_
  refine r_callVD (ws2 := [_, _, _, _, _]) (wr := []) 125 s_X3_213 dX3_passAll_125 (m_pass1 (a := 16) (by decide)) rfl rfl 0 rfl rfl rfl [0, 1, 2, 3, 4] [] rfl rfl rfl rfl (by decide) jRm_ok (Nat.le_of_ble_eq_true rfl) ⟨(Nat.le_of_ble_eq_true rfl), (Nat.le_of_ble_eq_true rfl)⟩ [0, 1, 2, 3, 4] rfl rfl ?_
  refine r_arrI (f2 := kpW S 0 kp 17) (ws2 := [_, _, _, _, (_, .inl (_, _, .inl _))]) 4 rfl (fun j _ => kpW_s (lo := 0) (k := 16) rfl j) rfl ?_
  refine r_iastore (ws2 := [_, _, _, (_, .inl (_, _, .inl _)), _]) 128 dX3_passAll_128 3 rfl (vp_lit (by decide)) (show Int32.toNatClampNeg 3 = 3 by decide) rfl ?_
  refine r_arrI (f2 := fun p => mI (sW S p)) (ws2 := [_, _, _, (_, .inl (_, _, .inl _)), _]) 3 rfl (fun j _ => upd_id j) rfl ?_
  refine r_iinc (v := 4) (lv2 := [_, _]) 129 dX3_passAll_129 rfl (by decide) (by decide) rfl rfl ?_
  refine r_goto 132 91 dX3_passAll_132 (by decide) ?_
  refine r_iload_n 91 dX3_passAll_91 rfl ?_
  refine r_bipush (v := 16) 92 dX3_passAll_92 (by decide) ?_
  refine r_icmp_geF 94 135 dX3_passAll_94 (by decide) (by decide) ?_
  refine r_aload_n 97 dX3_passAll_97 rfl ?_
  refine r_get 98 f_X3_13 dX3_passAll_98 0 rfl rfl ?_
  refine r_iload_n 101 dX3_passAll_101 rfl ?_
  refine r_aload_n 102 dX3_passAll_102 rfl ?_
  refine r_aload_n 103 dX3_passAll_103 rfl ?_
  refine r_get 104 f_X3_13 dX3_passAll_104 0 rfl rfl ?_
  refine r_iload_n 107 dX3_passAll_107 rfl ?_
  refine r_iaload 108 dX3_passAll_108 2 rfl (vp_lit (by decide)) (show Int32.toNatClampNeg 4 = 4 by decide) ?_
  refine r_callVD (ws2 := [_, _, _, _, _]) (wr := []) 109 s_X3_213 dX3_passAll_109 (m_pass1 (a := 17) (by decide)) rfl rfl 0 rfl rfl rfl [0, 1, 2, 3, 4] [] rfl rfl rfl rfl (by decide) jRm_ok (Nat.le_of_ble_eq_true rfl) ⟨(Nat.le_of_ble_eq_true rfl), (Nat.le_of_ble_eq_true rfl)⟩ [0, 1, 2, 3, 4] rfl rfl ?_
  refine r_arrI (f2 := kpW S 0 kp 18) (ws2 := [_, _, _, _, (_, .inl (_, _, .inl _))]) 4 rfl (fun j _ => kpW_s (lo := 0) (k := 17) rfl j) rfl ?_
  refine r_iastore (ws2 := [_, _, (_, .inl (_, _, .inl _)), _, _]) 112 dX3_passAll_112 2 rfl (vp_lit (by decide)) (show Int32.toNatClampNeg 4 = 4 by decide) rfl ?_
  refine r_arrI (f2 := fun p => fI (sF S p)) (ws2 := [_, _, (_, .inl (_, _, .inl _)), _, _]) 2 rfl (fun j _ => upd_id j) rfl ?_
  refine r_aload_n 113 dX3_passAll_113 rfl ?_
  refine r_get 114 f_X3_16 dX3_passAll_114 0 rfl rfl ?_
  refine r_iload_n 117 dX3_passAll_117 rfl ?_
  refine r_aload_n 118 dX3_passAll_118 rfl ?_
  refine r_aload_n 119 dX3_passAll_119 rfl ?_
  refine r_get 120 f_X3_16 dX3_passAll_120 0 rfl rfl ?_
  refine r_iload_n 123 dX3_passAll_123 rfl ?_
  refine r_iaload 124 dX3_passAll_124 3 rfl (vp_lit (by decide)) (show Int32.toNatClampNeg 4 = 4 by decide) ?_
  refine r_callVD (ws2 := [_, _, _, _, _]) (wr := []) 125 s_X3_213 dX3_passAll_125 (m_pass1 (a := 18) (by decide)) rfl rfl 0 rfl rfl rfl [0, 1, 2, 3, 4] [] rfl rfl rfl rfl (by decide) jRm_ok (Nat.le_of_ble_eq_true rfl) ⟨(Nat.le_of_ble_eq_true rfl), (Nat.le_of_ble_eq_true rfl)⟩ [0, 1, 2, 3, 4] rfl rfl ?_
  refine r_arrI (f2 := kpW S 0 kp 19) (ws2 := [_, _, _, _, (_, .inl (_, _, .inl _))]) 4 rfl (fun j _ => kpW_s (lo := 0) (k := 18) rfl j) rfl ?_
  refine r_iastore (ws2 := [_, _, _, (_, .inl (_, _, .inl _)), _]) 128 dX3_passAll_128 3 rfl (vp_lit (by decide)) (show Int32.toNatClampNeg 4 = 4 by decide) rfl ?_
  refine r_arrI (f2 := fun p => mI (sW S p)) (ws2 := [_, _, _, (_, .inl (_, _, .inl _)), _]) 3 rfl (fun j _ => upd_id j) rfl ?_
  refine r_iinc (v := 5) (lv2 := [_, _]) 129 dX3_passAll_129 rfl (by decide) (by decide) rfl rfl ?_
  refine r_goto 132 91 dX3_passAll_132 (by decide) ?_
  refine r_iload_n 91 dX3_passAll_91 rfl ?_
  refine r_bipush (v := 16) 92 dX3_passAll_92 (by decide) ?_
  refine r_icmp_geF 94 135 dX3_passAll_94 (by decide) (by decide) ?_
  refine r_aload_n 97 dX3_passAll_97 rfl ?_
  refine r_get 98 f_X3_13 dX3_passAll_98 0 rfl rfl ?_
  refine r_iload_n 101 dX3_passAll_101 rfl ?_
  refine r_aload_n 102 dX3_passAll_102 rfl ?_
  refine r_aload_n 103 dX3_passAll_103 rfl ?_
  refine r_get 104 f_X3_13 dX3_passAll_104 0 rfl rfl ?_
  refine r_iload_n 107 dX3_passAll_107 rfl ?_
  refine r_iaload 108 dX3_passAll_108 2 rfl (vp_lit (by decide)) (show Int32.toNatClampNeg 5 = 5 by decide) ?_
  refine r_callVD (ws2 := [_, _, _, _, _]) (wr := []) 109 s_X3_213 dX3_passAll_109 (m_pass1 (a := 19) (by decide)) rfl rfl 0 rfl rfl rfl [0, 1, 2, 3, 4] [] rfl rfl rfl rfl (by decide) jRm_ok (Nat.le_of_ble_eq_true rfl) ⟨(Nat.le_of_ble_eq_true rfl), (Nat.le_of_ble_eq_true rfl)⟩ [0, 1, 2, 3, 4] rfl rfl ?_
  refine r_arrI (f2 := kpW S 0 kp 20) (ws2 := [_, _, _, _, (_, .inl (_, _, .inl _))]) 4 rfl (fun j _ => kpW_s (lo := 0) (k := 19) rfl j) rfl ?_
  refine r_iastore (ws2 := [_, _, (_, .inl (_, _, .inl _)), _, _]) 112 dX3_passAll_112 2 rfl (vp_lit (by decide)) (show Int32.toNatClampNeg 5 = 5 by decide) rfl ?_
  refine r_arrI (f2 := fun p => fI (sF S p)) (ws2 := [_, _, (_, .inl (_, _, .inl _)), _, _]) 2 rfl (fun j _ => upd_id j) rfl ?_
  refine r_aload_n 113 dX3_passAll_113 rfl ?_
  refine r_get 114 f_X3_16 dX3_passAll_114 0 rfl rfl ?_
  refine r_iload_n 117 dX3_passAll_117 rfl ?_
  refine r_aload_n 118 dX3_passAll_118 rfl ?_
  refine r_aload_n 119 dX3_passAll_119 rfl ?_
  refine r_get 120 f_X3_16 dX3_passAll_120 0 rfl rfl ?_
  refine r_iload_n 123 dX3_passAll_123 rfl ?_
  refine r_iaload 124 dX3_passAll_124 3 rfl (vp_lit (by decide)) (show Int32.toNatClampNeg 5 = 5 by decide) ?_
  refine r_callVD (ws2 := [_, _, _, _, _]) (wr := []) 125 s_X3_213 dX3_passAll_125 (m_pass1 (a := 20) (by decide)) rfl rfl 0 rfl rfl rfl [0, 1, 2, 3, 4] [] rfl rfl rfl rfl (by decide) jRm_ok (Nat.le_of_ble_eq_true rfl) ⟨(Nat.le_of_ble_eq_true rfl), (Nat.le_of_ble_eq_true rfl)⟩ [0, 1, 2, 3, 4] rfl rfl ?_
  refine r_arrI (f2 := kpW S 0 kp 21) (ws2 := [_, _, _, _, (_, .inl (_, _, .inl _))]) 4 rfl (fun j _ => kpW_s (lo := 0) (k := 20) rfl j) rfl ?_
  refine r_iastore (ws2 := [_, _, _, (_, .inl (_, _, .inl _)), _]) 128 dX3_passAll_128 3 rfl (vp_lit (by decide)) (show Int32.toNatClampNeg 5 = 5 by decide) rfl ?_
  refine r_arrI (f2 := fun p => mI (sW S p)) (ws2 := [_, _, _, (_, .inl (_, _, .inl _)), _]) 3 rfl (fun j _ => upd_id j) rfl ?_
  refine r_iinc (v := 6) (lv2 := [_, _]) 129 dX3_passAll_129 rfl (by decide) (by decide) rfl rfl ?_
  refine r_goto 132 91 dX3_passAll_132 (by decide) ?_
  refine r_iload_n 91 dX3_passAll_91 rfl ?_
  refine r_bipush (v := 16) 92 dX3_passAll_92 (by decide) ?_
  refine r_icmp_geF 94 135 dX3_passAll_94 (by decide) (by decide) ?_
  refine r_aload_n 97 dX3_passAll_97 rfl ?_
  refine r_get 98 f_X3_13 dX3_passAll_98 0 rfl rfl ?_
  refine r_iload_n 101 dX3_passAll_101 rfl ?_
  refine r_aload_n 102 dX3_passAll_102 rfl ?_
  refine r_aload_n 103 dX3_passAll_103 rfl ?_
  refine r_get 104 f_X3_13 dX3_passAll_104 0 rfl rfl ?_
  refine r_iload_n 107 dX3_passAll_107 rfl ?_
  refine r_iaload 108 dX3_passAll_108 2 rfl (vp_lit (by decide)) (show Int32.toNatClampNeg 6 = 6 by decide) ?_
  refine r_callVD (ws2 := [_, _, _, _, _]) (wr := []) 109 s_X3_213 dX3_passAll_109 (m_pass1 (a := 21) (by decide)) rfl rfl 0 rfl rfl rfl [0, 1, 2, 3, 4] [] rfl rfl rfl rfl (by decide) jRm_ok (Nat.le_of_ble_eq_true rfl) ⟨(Nat.le_of_ble_eq_true rfl), (Nat.le_of_ble_eq_true rfl)⟩ [0, 1, 2, 3, 4] rfl rfl ?_
  refine r_arrI (f2 := kpW S 0 kp 22) (ws2 := [_, _, _, _, (_, .inl (_, _, .inl _))]) 4 rfl (fun j _ => kpW_s (lo := 0) (k := 21) rfl j) rfl ?_
  refine r_iastore (ws2 := [_, _, (_, .inl (_, _, .inl _)), _, _]) 112 dX3_passAll_112 2 rfl (vp_lit (by decide)) (show Int32.toNatClampNeg 6 = 6 by decide) rfl ?_
  refine r_arrI (f2 := fun p => fI (sF S p)) (ws2 := [_, _, (_, .inl (_, _, .inl _)), _, _]) 2 rfl (fun j _ => upd_id j) rfl ?_
  refine r_aload_n 113 dX3_passAll_113 rfl ?_
  refine r_get 114 f_X3_16 dX3_passAll_114 0 rfl rfl ?_
  refine r_iload_n 117 dX3_passAll_117 rfl ?_
  refine r_aload_n 118 dX3_passAll_118 rfl ?_
  refine r_aload_n 119 dX3_passAll_119 rfl ?_
  refine r_get 120 f_X3_16 dX3_passAll_120 0 rfl rfl ?_
  refine r_iload_n 123 dX3_passAll_123 rfl ?_
  refine r_iaload 124 dX3_passAll_124 3 rfl (vp_lit (by decide)) (show Int32.toNatClampNeg 6 = 6 by decide) ?_
  refine r_callVD (ws2 := [_, _, _, _, _]) (wr := []) 125 s_X3_213 dX3_passAll_125 (m_pass1 (a := 22) (by decide)) rfl rfl 0 rfl rfl rfl [0, 1, 2, 3, 4] [] rfl rfl rfl rfl (by decide) jRm_ok (Nat.le_of_ble_eq_true rfl) ⟨(Nat.le_of_ble_eq_true rfl), (Nat.le_of_ble_eq_true rfl)⟩ [0, 1, 2, 3, 4] rfl rfl ?_
  refine r_arrI (f2 := kpW S 0 kp 23) (ws2 := [_, _, _, _, (_, .inl (_, _, .inl _))]) 4 rfl (fun j _ => kpW_s (lo := 0) (k := 22) rfl j) rfl ?_
  refine r_iastore (ws2 := [_, _, _, (_, .inl (_, _, .inl _)), _]) 128 dX3_passAll_128 3 rfl (vp_lit (by decide)) (show Int32.toNatClampNeg 6 = 6 by decide) rfl ?_
  refine r_arrI (f2 := fun p => mI (sW S p)) (ws2 := [_, _, _, (_, .inl (_, _, .inl _)), _]) 3 rfl (fun j _ => upd_id j) rfl ?_
  refine r_iinc (v := 7) (lv2 := [_, _]) 129 dX3_passAll_129 rfl (by decide) (by decide) rfl rfl ?_
  refine r_goto 132 91 dX3_passAll_132 (by decide) ?_
  refine r_iload_n 91 dX3_passAll_91 rfl ?_
  refine r_bipush (v := 16) 92 dX3_passAll_92 (by decide) ?_
  refine r_icmp_geF 94 135 dX3_passAll_94 (by decide) (by decide) ?_
  refine r_aload_n 97 dX3_passAll_97 rfl ?_
  refine r_get 98 f_X3_13 dX3_passAll_98 0 rfl rfl ?_
  refine r_iload_n 101 dX3_passAll_101 rfl ?_
  refine r_aload_n 102 dX3_passAll_102 rfl ?_
  refine r_aload_n 103 dX3_passAll_103 rfl ?_
  refine r_get 104 f_X3_13 dX3_passAll_104 0 rfl rfl ?_
  refine r_iload_n 107 dX3_passAll_107 rfl ?_
  refine r_iaload 108 dX3_passAll_108 2 rfl (vp_lit (by decide)) (show Int32.toNatClampNeg 7 = 7 by decide) ?_
  refine r_callVD (ws2 := [_, _, _, _, _]) (wr := []) 109 s_X3_213 dX3_passAll_109 (m_pass1 (a := 23) (by decide)) rfl rfl 0 rfl rfl rfl [0, 1, 2, 3, 4] [] rfl rfl rfl rfl (by decide) jRm_ok (Nat.le_of_ble_eq_true rfl) ⟨(Nat.le_of_ble_eq_true rfl), (Nat.le_of_ble_eq_true rfl)⟩ [0, 1, 2, 3, 4] rfl rfl ?_
  refine r_arrI (f2 := kpW S 0 kp 24) (ws2 := [_, _, _, _, (_, .inl (_, _, .inl _))]) 4 rfl (fun j _ => kpW_s (lo := 0) (k := 23) rfl j) rfl ?_
  refine r_iastore (ws2 := [_, _, (_, .inl (_, _, .inl _)), _, _]) 112 dX3_passAll_112 2 rfl (vp_lit (by decide)) (show Int32.toNatClampNeg 7 = 7 by decide) rfl ?_
  refine r_arrI (f2 := fun p => fI (sF S p)) (ws2 := [_, _, (_, .inl (_, _, .inl _)), _, _]) 2 rfl (fun j _ => upd_id j) rfl ?_
  refine r_aload_n 113 dX3_passAll_113 rfl ?_
  refine r_get 114 f_X3_16 dX3_passAll_114 0 rfl rfl ?_
  refine r_iload_n 117 dX3_passAll_117 rfl ?_
  refine r_aload_n 118 dX3_passAll_118 rfl ?_
  refine r_aload_n 119 dX3_passAll_119 rfl ?_
  refine r_get 120 f_X3_16 dX3_passAll_120 0 rfl rfl ?_
  refine r_iload_n 123 dX3_passAll_123 rfl ?_
  refine r_iaload 124 dX3_passAll_124 3 rfl (vp_lit (by decide)) (show Int32.toNatClampNeg 7 = 7 by decide) ?_
  refine r_callVD (ws2 := [_, _, _, _, _]) (wr := []) 125 s_X3_213 dX3_passAll_125 (m_pass1 (a := 24) (by decide)) rfl rfl 0 rfl rfl rfl [0, 1, 2, 3, 4] [] rfl rfl rfl rfl (by decide) jRm_ok (Nat.le_of_ble_eq_true rfl) ⟨(Nat.le_of_ble_eq_true rfl), (Nat.le_of_ble_eq_true rfl)⟩ [0, 1, 2, 3, 4] rfl rfl ?_
  refine r_arrI (f2 := kpW S 0 kp 25) (ws2 := [_, _, _, _, (_, .inl (_, _, .inl _))]) 4 rfl (fun j _ => kpW_s (lo := 0) (k := 24) rfl j) rfl ?_
  refine r_iastore (ws2 := [_, _, _, (_, .inl (_, _, .inl _)), _]) 128 dX3_passAll_128 3 rfl (vp_lit (by decide)) (show Int32.toNatClampNeg 7 = 7 by decide) rfl ?_
  refine r_arrI (f2 := fun p => mI (sW S p)) (ws2 := [_, _, _, (_, .inl (_, _, .inl _)), _]) 3 rfl (fun j _ => upd_id j) rfl ?_
  refine r_iinc (v := 8) (lv2 := [_, _]) 129 dX3_passAll_129 rfl (by decide) (by decide) rfl rfl ?_
  refine r_goto 132 91 dX3_passAll_132 (by decide) ?_
  refine r_iload_n 91 dX3_passAll_91 rfl ?_
  refine r_bipush (v := 16) 92 dX3_passAll_92 (by decide) ?_
  refine r_icmp_geF 94 135 dX3_passAll_94 (by decide) (by decide) ?_
  refine r_aload_n 97 dX3_passAll_97 rfl ?_
  refine r_get 98 f_X3_13 dX3_passAll_98 0 rfl rfl ?_
  refine r_iload_n 101 dX3_passAll_101 rfl ?_
  refine r_aload_n 102 dX3_passAll_102 rfl ?_
  refine r_aload_n 103 dX3_passAll_103 rfl ?_
  refine r_get 104 f_X3_13 dX3_passAll_104 0 rfl rfl ?_
  refine r_iload_n 107 dX3_passAll_107 rfl ?_
  refine r_iaload 108 dX3_passAll_108 2 rfl (vp_lit (by decide)) (show Int32.toNatClampNeg 8 = 8 by decide) ?_
  refine r_callVD (ws2 := [_, _, _, _, _]) (wr := []) 109 s_X3_213 dX3_passAll_109 (m_pass1 (a := 25) (by decide)) rfl rfl 0 rfl rfl rfl [0, 1, 2, 3, 4] [] rfl rfl rfl rfl (by decide) jRm_ok (Nat.le_of_ble_eq_true rfl) ⟨(Nat.le_of_ble_eq_true rfl), (Nat.le_of_ble_eq_true rfl)⟩ [0, 1, 2, 3, 4] rfl rfl ?_
  refine r_arrI (f2 := kpW S 0 kp 26) (ws2 := [_, _, _, _, (_, .inl (_, _, .inl _))]) 4 rfl (fun j _ => kpW_s (lo := 0) (k := 25) rfl j) rfl ?_
  refine r_iastore (ws2 := [_, _, (_, .inl (_, _, .inl _)), _, _]) 112 dX3_passAll_112 2 rfl (vp_lit (by decide)) (show Int32.toNatClampNeg 8 = 8 by decide) rfl ?_
  refine r_arrI (f2 := fun p => fI (sF S p)) (ws2 := [_, _, (_, .inl (_, _, .inl _)), _, _]) 2 rfl (fun j _ => upd_id j) rfl ?_
  refine r_aload_n 113 dX3_passAll_113 rfl ?_
  refine r_get 114 f_X3_16 dX3_passAll_114 0 rfl rfl ?_
  refine r_iload_n 117 dX3_passAll_117 rfl ?_
  refine r_aload_n 118 dX3_passAll_118 rfl ?_
  refine r_aload_n 119 dX3_passAll_119 rfl ?_
  refine r_get 120 f_X3_16 dX3_passAll_120 0 rfl rfl ?_
  refine r_iload_n 123 dX3_passAll_123 rfl ?_
  refine r_iaload 124 dX3_passAll_124 3 rfl (vp_lit (by decide)) (show Int32.toNatClampNeg 8 = 8 by decide) ?_
  refine r_callVD (ws2 := [_, _, _, _, _]) (wr := []) 125 s_X3_213 dX3_passAll_125 (m_pass1 (a := 26) (by decide)) rfl rfl 0 rfl rfl rfl [0, 1, 2, 3, 4] [] rfl rfl rfl rfl (by decide) jRm_ok (Nat.le_of_ble_eq_true rfl) ⟨(Nat.le_of_ble_eq_true rfl), (Nat.le_of_ble_eq_true rfl)⟩ [0, 1, 2, 3, 4] rfl rfl ?_
  refine r_arrI (f2 := kpW S 0 kp 27) (ws2 := [_, _, _, _, (_, .inl (_, _, .inl _))]) 4 rfl (fun j _ => kpW_s (lo := 0) (k := 26) rfl j) rfl ?_
  refine r_iastore (ws2 := [_, _, _, (_, .inl (_, _, .inl _)), _]) 128 dX3_passAll_128 3 rfl (vp_lit (by decide)) (show Int32.toNatClampNeg 8 = 8 by decide) rfl ?_
  refine r_arrI (f2 := fun p => mI (sW S p)) (ws2 := [_, _, _, (_, .inl (_, _, .inl _)), _]) 3 rfl (fun j _ => upd_id j) rfl ?_
  refine r_iinc (v := 9) (lv2 := [_, _]) 129 dX3_passAll_129 rfl (by decide) (by decide) rfl rfl ?_
  refine r_goto 132 91 dX3_passAll_132 (by decide) ?_
  refine r_iload_n 91 dX3_passAll_91 rfl ?_
  refine r_bipush (v := 16) 92 dX3_passAll_92 (by decide) ?_
  refine r_icmp_geF 94 135 dX3_passAll_94 (by decide) (by decide) ?_
  refine r_aload_n 97 dX3_passAll_97 rfl ?_
  refine r_get 98 f_X3_13 dX3_passAll_98 0 rfl rfl ?_
  refine r_iload_n 101 dX3_passAll_101 rfl ?_
  refine r_aload_n 102 dX3_passAll_102 rfl ?_
  refine r_aload_n 103 dX3_passAll_103 rfl ?_
  refine r_get 104 f_X3_13 dX3_passAll_104 0 rfl rfl ?_
  refine r_iload_n 107 dX3_passAll_107 rfl ?_
  refine r_iaload 108 dX3_passAll_108 2 rfl (vp_lit (by decide)) (show Int32.toNatClampNeg 9 = 9 by decide) ?_
  refine r_callVD (ws2 := [_, _, _, _, _]) (wr := []) 109 s_X3_213 dX3_passAll_109 (m_pass1 (a := 27) (by decide)) rfl rfl 0 rfl rfl rfl [0, 1, 2, 3, 4] [] rfl rfl rfl rfl (by decide) jRm_ok (Nat.le_of_ble_eq_true rfl) ⟨(Nat.le_of_ble_eq_true rfl), (Nat.le_of_ble_eq_true rfl)⟩ [0, 1, 2, 3, 4] rfl rfl ?_
  refine r_arrI (f2 := kpW S 0 kp 28) (ws2 := [_, _, _, _, (_, .inl (_, _, .inl _))]) 4 rfl (fun j _ => kpW_s (lo := 0) (k := 27) rfl j) rfl ?_
  refine r_iastore (ws2 := [_, _, (_, .inl (_, _, .inl _)), _, _]) 112 dX3_passAll_112 2 rfl (vp_lit (by decide)) (show Int32.toNatClampNeg 9 = 9 by decide) rfl ?_
  refine r_arrI (f2 := fun p => fI (sF S p)) (ws2 := [_, _, (_, .inl (_, _, .inl _)), _, _]) 2 rfl (fun j _ => upd_id j) rfl ?_
  refine r_aload_n 113 dX3_passAll_113 rfl ?_
  refine r_get 114 f_X3_16 dX3_passAll_114 0 rfl rfl ?_
  refine r_iload_n 117 dX3_passAll_117 rfl ?_
  refine r_aload_n 118 dX3_passAll_118 rfl ?_
  refine r_aload_n 119 dX3_passAll_119 rfl ?_
  refine r_get 120 f_X3_16 dX3_passAll_120 0 rfl rfl ?_
  refine r_iload_n 123 dX3_passAll_123 rfl ?_
  refine r_iaload 124 dX3_passAll_124 3 rfl (vp_lit (by decide)) (show Int32.toNatClampNeg 9 = 9 by decide) ?_
  refine r_callVD (ws2 := [_, _, _, _, _]) (wr := []) 125 s_X3_213 dX3_passAll_125 (m_pass1 (a := 28) (by decide)) rfl rfl 0 rfl rfl rfl [0, 1, 2, 3, 4] [] rfl rfl rfl rfl (by decide) jRm_ok (Nat.le_of_ble_eq_true rfl) ⟨(Nat.le_of_ble_eq_true rfl), (Nat.le_of_ble_eq_true rfl)⟩ [0, 1, 2, 3, 4] rfl rfl ?_
  refine r_arrI (f2 := kpW S 0 kp 29) (ws2 := [_, _, _, _, (_, .inl (_, _, .inl _))]) 4 rfl (fun j _ => kpW_s (lo := 0) (k := 28) rfl j) rfl ?_
  refine r_iastore (ws2 := [_, _, _, (_, .inl (_, _, .inl _)), _]) 128 dX3_passAll_128 3 rfl (vp_lit (by decide)) (show Int32.toNatClampNeg 9 = 9 by decide) rfl ?_
  refine r_arrI (f2 := fun p => mI (sW S p)) (ws2 := [_, _, _, (_, .inl (_, _, .inl _)), _]) 3 rfl (fun j _ => upd_id j) rfl ?_
  refine r_iinc (v := 10) (lv2 := [_, _]) 129 dX3_passAll_129 rfl (by decide) (by decide) rfl rfl ?_
  refine r_goto 132 91 dX3_passAll_132 (by decide) ?_
  refine r_iload_n 91 dX3_passAll_91 rfl ?_
  refine r_bipush (v := 16) 92 dX3_passAll_92 (by decide) ?_
  refine r_icmp_geF 94 135 dX3_passAll_94 (by decide) (by decide) ?_
  refine r_aload_n 97 dX3_passAll_97 rfl ?_
  refine r_get 98 f_X3_13 dX3_passAll_98 0 rfl rfl ?_
  refine r_iload_n 101 dX3_passAll_101 rfl ?_
  refine r_aload_n 102 dX3_passAll_102 rfl ?_
  refine r_aload_n 103 dX3_passAll_103 rfl ?_
  refine r_get 104 f_X3_13 dX3_passAll_104 0 rfl rfl ?_
  refine r_iload_n 107 dX3_passAll_107 rfl ?_
  refine r_iaload 108 dX3_passAll_108 2 rfl (vp_lit (by decide)) (show Int32.toNatClampNeg 10 = 10 by decide) ?_
  refine r_callVD (ws2 := [_, _, _, _, _]) (wr := []) 109 s_X3_213 dX3_passAll_109 (m_pass1 (a := 29) (by decide)) rfl rfl 0 rfl rfl rfl [0, 1, 2, 3, 4] [] rfl rfl rfl rfl (by decide) jRm_ok (Nat.le_of_ble_eq_true rfl) ⟨(Nat.le_of_ble_eq_true rfl), (Nat.le_of_ble_eq_true rfl)⟩ [0, 1, 2, 3, 4] rfl rfl ?_
  refine r_arrI (f2 := kpW S 0 kp 30) (ws2 := [_, _, _, _, (_, .inl (_, _, .inl _))]) 4 rfl (fun j _ => kpW_s (lo := 0) (k := 29) rfl j) rfl ?_
  refine r_iastore (ws2 := [_, _, (_, .inl (_, _, .inl _)), _, _]) 112 dX3_passAll_112 2 rfl (vp_lit (by decide)) (show Int32.toNatClampNeg 10 = 10 by decide) rfl ?_
  refine r_arrI (f2 := fun p => fI (sF S p)) (ws2 := [_, _, (_, .inl (_, _, .inl _)), _, _]) 2 rfl (fun j _ => upd_id j) rfl ?_
  refine r_aload_n 113 dX3_passAll_113 rfl ?_
  refine r_get 114 f_X3_16 dX3_passAll_114 0 rfl rfl ?_
  refine r_iload_n 117 dX3_passAll_117 rfl ?_
  refine r_aload_n 118 dX3_passAll_118 rfl ?_
  refine r_aload_n 119 dX3_passAll_119 rfl ?_
  refine r_get 120 f_X3_16 dX3_passAll_120 0 rfl rfl ?_
  refine r_iload_n 123 dX3_passAll_123 rfl ?_
  refine r_iaload 124 dX3_passAll_124 3 rfl (vp_lit (by decide)) (show Int32.toNatClampNeg 10 = 10 by decide) ?_
  refine r_callVD (ws2 := [_, _, _, _, _]) (wr := []) 125 s_X3_213 dX3_passAll_125 (m_pass1 (a := 30) (by decide)) rfl rfl 0 rfl rfl rfl [0, 1, 2, 3, 4] [] rfl rfl rfl rfl (by decide) jRm_ok (Nat.le_of_ble_eq_true rfl) ⟨(Nat.le_of_ble_eq_true rfl), (Nat.le_of_ble_eq_true rfl)⟩ [0, 1, 2, 3, 4] rfl rfl ?_
  refine r_arrI (f2 := kpW S 0 kp 31) (ws2 := [_, _, _, _, (_, .inl (_, _, .inl _))]) 4 rfl (fun j _ => kpW_s (lo := 0) (k := 30) rfl j) rfl ?_
  refine r_iastore (ws2 := [_, _, _, (_, .inl (_, _, .inl _)), _]) 128 dX3_passAll_128 3 rfl (vp_lit (by decide)) (show Int32.toNatClampNeg 10 = 10 by decide) rfl ?_
  refine r_arrI (f2 := fun p => mI (sW S p)) (ws2 := [_, _, _, (_, .inl (_, _, .inl _)), _]) 3 rfl (fun j _ => upd_id j) rfl ?_
  refine r_iinc (v := 11) (lv2 := [_, _]) 129 dX3_passAll_129 rfl (by decide) (by decide) rfl rfl ?_
  refine r_goto 132 91 dX3_passAll_132 (by decide) ?_
  refine r_iload_n 91 dX3_passAll_91 rfl ?_
  refine r_bipush (v := 16) 92 dX3_passAll_92 (by decide) ?_
  refine r_icmp_geF 94 135 dX3_passAll_94 (by decide) (by decide) ?_
  refine r_aload_n 97 dX3_passAll_97 rfl ?_
  refine r_get 98 f_X3_13 dX3_passAll_98 0 rfl rfl ?_
  refine r_iload_n 101 dX3_passAll_101 rfl ?_
  refine r_aload_n 102 dX3_passAll_102 rfl ?_
  refine r_aload_n 103 dX3_passAll_103 rfl ?_
  refine r_get 104 f_X3_13 dX3_passAll_104 0 rfl rfl ?_
  refine r_iload_n 107 dX3_passAll_107 rfl ?_
  refine r_iaload 108 dX3_passAll_108 2 rfl (vp_lit (by decide)) (show Int32.toNatClampNeg 11 = 11 by decide) ?_
  refine r_callVD (ws2 := [_, _, _, _, _]) (wr := []) 109 s_X3_213 dX3_passAll_109 (m_pass1 (a := 31) (by decide)) rfl rfl 0 rfl rfl rfl [0, 1, 2, 3, 4] [] rfl rfl rfl rfl (by decide) jRm_ok (Nat.le_of_ble_eq_true rfl) ⟨(Nat.le_of_ble_eq_true rfl), (Nat.le_of_ble_eq_true rfl)⟩ [0, 1, 2, 3, 4] rfl rfl ?_
  refine r_arrI (f2 := kpW S 0 kp 32) (ws2 := [_, _, _, _, (_, .inl (_, _, .inl _))]) 4 rfl (fun j _ => kpW_s (lo := 0) (k := 31) rfl j) rfl ?_
  refine r_iastore (ws2 := [_, _, (_, .inl (_, _, .inl _)), _, _]) 112 dX3_passAll_112 2 rfl (vp_lit (by decide)) (show Int32.toNatClampNeg 11 = 11 by decide) rfl ?_
  refine r_arrI (f2 := fun p => fI (sF S p)) (ws2 := [_, _, (_, .inl (_, _, .inl _)), _, _]) 2 rfl (fun j _ => upd_id j) rfl ?_
  refine r_aload_n 113 dX3_passAll_113 rfl ?_
  refine r_get 114 f_X3_16 dX3_passAll_114 0 rfl rfl ?_
  refine r_iload_n 117 dX3_passAll_117 rfl ?_
  refine r_aload_n 118 dX3_passAll_118 rfl ?_
  refine r_aload_n 119 dX3_passAll_119 rfl ?_
  refine r_get 120 f_X3_16 dX3_passAll_120 0 rfl rfl ?_
  refine r_iload_n 123 dX3_passAll_123 rfl ?_
  refine r_iaload 124 dX3_passAll_124 3 rfl (vp_lit (by decide)) (show Int32.toNatClampNeg 11 = 11 by decide) ?_
  refine r_callVD (ws2 := [_, _, _, _, _]) (wr := []) 125 s_X3_213 dX3_passAll_125 (m_pass1 (a := 32) (by decide)) rfl rfl 0 rfl rfl rfl [0, 1, 2, 3, 4] [] rfl rfl rfl rfl (by decide) jRm_ok (Nat.le_of_ble_eq_true rfl) ⟨(Nat.le_of_ble_eq_true rfl), (Nat.le_of_ble_eq_true rfl)⟩ [0, 1, 2, 3, 4] rfl rfl ?_
  refine r_arrI (f2 := kpW S 0 kp 33) (ws2 := [_, _, _, _, (_, .inl (_, _, .inl _))]) 4 rfl (fun j _ => kpW_s (lo := 0) (k := 32) rfl j) rfl ?_
  refine r_iastore (ws2 := [_, _, _, (_, .inl (_, _, .inl _)), _]) 128 dX3_passAll_128 3 rfl (vp_lit (by decide)) (show Int32.toNatClampNeg 11 = 11 by decide) rfl ?_
  refine r_arrI (f2 := fun p => mI (sW S p)) (ws2 := [_, _, _, (_, .inl (_, _, .inl _)), _]) 3 rfl (fun j _ => upd_id j) rfl ?_
  refine r_iinc (v := 12) (lv2 := [_, _]) 129 dX3_passAll_129 rfl (by decide) (by decide) rfl rfl ?_
  refine r_goto 132 91 dX3_passAll_132 (by decide) ?_
  refine r_iload_n 91 dX3_passAll_91 rfl ?_
  refine r_bipush (v := 16) 92 dX3_passAll_92 (by decide) ?_
  refine r_icmp_geF 94 135 dX3_passAll_94 (by decide) (by decide) ?_
  refine r_aload_n 97 dX3_passAll_97 rfl ?_
  refine r_get 98 f_X3_13 dX3_passAll_98 0 rfl rfl ?_
  refine r_iload_n 101 dX3_passAll_101 rfl ?_
  refine r_aload_n 102 dX3_passAll_102 rfl ?_
  refine r_aload_n 103 dX3_passAll_103 rfl ?_
  refine r_get 104 f_X3_13 dX3_passAll_104 0 rfl rfl ?_
  refine r_iload_n 107 dX3_passAll_107 rfl ?_
  refine r_iaload 108 dX3_passAll_108 2 rfl (vp_lit (by decide)) (show Int32.toNatClampNeg 12 = 12 by decide) ?_
  refine r_callVD (ws2 := [_, _, _, _, _]) (wr := []) 109 s_X3_213 dX3_passAll_109 (m_pass1 (a := 33) (by decide)) rfl rfl 0 rfl rfl rfl [0, 1, 2, 3, 4] [] rfl rfl rfl rfl (by decide) jRm_ok (Nat.le_of_ble_eq_true rfl) ⟨(Nat.le_of_ble_eq_true rfl), (Nat.le_of_ble_eq_true rfl)⟩ [0, 1, 2, 3, 4] rfl rfl ?_
  refine r_arrI (f2 := kpW S 0 kp 34) (ws2 := [_, _, _, _, (_, .inl (_, _, .inl _))]) 4 rfl (fun j _ => kpW_s (lo := 0) (k := 33) rfl j) rfl ?_
  refine r_iastore (ws2 := [_, _, (_, .inl (_, _, .inl _)), _, _]) 112 dX3_passAll_112 2 rfl (vp_lit (by decide)) (show Int32.toNatClampNeg 12 = 12 by decide) rfl ?_
  refine r_arrI (f2 := fun p => fI (sF S p)) (ws2 := [_, _, (_, .inl (_, _, .inl _)), _, _]) 2 rfl (fun j _ => upd_id j) rfl ?_
  refine r_aload_n 113 dX3_passAll_113 rfl ?_
  refine r_get 114 f_X3_16 dX3_passAll_114 0 rfl rfl ?_
  refine r_iload_n 117 dX3_passAll_117 rfl ?_
  refine r_aload_n 118 dX3_passAll_118 rfl ?_
  refine r_aload_n 119 dX3_passAll_119 rfl ?_
  refine r_get 120 f_X3_16 dX3_passAll_120 0 rfl rfl ?_
  refine r_iload_n 123 dX3_passAll_123 rfl ?_
  refine r_iaload 124 dX3_passAll_124 3 rfl (vp_lit (by decide)) (show Int32.toNatClampNeg 12 = 12 by decide) ?_
  refine r_callVD (ws2 := [_, _, _, _, _]) (wr := []) 125 s_X3_213 dX3_passAll_125 (m_pass1 (a := 34) (by decide)) rfl rfl 0 rfl rfl rfl [0, 1, 2, 3, 4] [] rfl rfl rfl rfl (by decide) jRm_ok (Nat.le_of_ble_eq_true rfl) ⟨(Nat.le_of_ble_eq_true rfl), (Nat.le_of_ble_eq_true rfl)⟩ [0, 1, 2, 3, 4] rfl rfl ?_
  refine r_arrI (f2 := kpW S 0 kp 35) (ws2 := [_, _, _, _, (_, .inl (_, _, .inl _))]) 4 rfl (fun j _ => kpW_s (lo := 0) (k := 34) rfl j) rfl ?_
  refine r_iastore (ws2 := [_, _, _, (_, .inl (_, _, .inl _)), _]) 128 dX3_passAll_128 3 rfl (vp_lit (by decide)) (show Int32.toNatClampNeg 12 = 12 by decide) rfl ?_
  refine r_arrI (f2 := fun p => mI (sW S p)) (ws2 := [_, _, _, (_, .inl (_, _, .inl _)), _]) 3 rfl (fun j _ => upd_id j) rfl ?_
  refine r_iinc (v := 13) (lv2 := [_, _]) 129 dX3_passAll_129 rfl (by decide) (by decide) rfl rfl ?_
  refine r_goto 132 91 dX3_passAll_132 (by decide) ?_
  refine r_iload_n 91 dX3_passAll_91 rfl ?_
  refine r_bipush (v := 16) 92 dX3_passAll_92 (by decide) ?_
  refine r_icmp_geF 94 135 dX3_passAll_94 (by decide) (by decide) ?_
  refine r_aload_n 97 dX3_passAll_97 rfl ?_
  refine r_get 98 f_X3_13 dX3_passAll_98 0 rfl rfl ?_
  refine r_iload_n 101 dX3_passAll_101 rfl ?_
  refine r_aload_n 102 dX3_passAll_102 rfl ?_
  refine r_aload_n 103 dX3_passAll_103 rfl ?_
  refine r_get 104 f_X3_13 dX3_passAll_104 0 rfl rfl ?_
  refine r_iload_n 107 dX3_passAll_107 rfl ?_
  refine r_iaload 108 dX3_passAll_108 2 rfl (vp_lit (by decide)) (show Int32.toNatClampNeg 13 = 13 by decide) ?_
  refine r_callVD (ws2 := [_, _, _, _, _]) (wr := []) 109 s_X3_213 dX3_passAll_109 (m_pass1 (a := 35) (by decide)) rfl rfl 0 rfl rfl rfl [0, 1, 2, 3, 4] [] rfl rfl rfl rfl (by decide) jRm_ok (Nat.le_of_ble_eq_true rfl) ⟨(Nat.le_of_ble_eq_true rfl), (Nat.le_of_ble_eq_true rfl)⟩ [0, 1, 2, 3, 4] rfl rfl ?_
  refine r_arrI (f2 := kpW S 0 kp 36) (ws2 := [_, _, _, _, (_, .inl (_, _, .inl _))]) 4 rfl (fun j _ => kpW_s (lo := 0) (k := 35) rfl j) rfl ?_
  refine r_iastore (ws2 := [_, _, (_, .inl (_, _, .inl _)), _, _]) 112 dX3_passAll_112 2 rfl (vp_lit (by decide)) (show Int32.toNatClampNeg 13 = 13 by decide) rfl ?_
  refine r_arrI (f2 := fun p => fI (sF S p)) (ws2 := [_, _, (_, .inl (_, _, .inl _)), _, _]) 2 rfl (fun j _ => upd_id j) rfl ?_
  refine r_aload_n 113 dX3_passAll_113 rfl ?_
  refine r_get 114 f_X3_16 dX3_passAll_114 0 rfl rfl ?_
  refine r_iload_n 117 dX3_passAll_117 rfl ?_
  refine r_aload_n 118 dX3_passAll_118 rfl ?_
  refine r_aload_n 119 dX3_passAll_119 rfl ?_
  refine r_get 120 f_X3_16 dX3_passAll_120 0 rfl rfl ?_
  refine r_iload_n 123 dX3_passAll_123 rfl ?_
  refine r_iaload 124 dX3_passAll_124 3 rfl (vp_lit (by decide)) (show Int32.toNatClampNeg 13 = 13 by decide) ?_
  refine r_callVD (ws2 := [_, _, _, _, _]) (wr := []) 125 s_X3_213 dX3_passAll_125 (m_pass1 (a := 36) (by decide)) rfl rfl 0 rfl rfl rfl [0, 1, 2, 3, 4] [] rfl rfl rfl rfl (by decide) jRm_ok (Nat.le_of_ble_eq_true rfl) ⟨(Nat.le_of_ble_eq_true rfl), (Nat.le_of_ble_eq_true rfl)⟩ [0, 1, 2, 3, 4] rfl rfl ?_
  refine r_arrI (f2 := kpW S 0 kp 37) (ws2 := [_, _, _, _, (_, .inl (_, _, .inl _))]) 4 rfl (fun j _ => kpW_s (lo := 0) (k := 36) rfl j) rfl ?_
  refine r_iastore (ws2 := [_, _, _, (_, .inl (_, _, .inl _)), _]) 128 dX3_passAll_128 3 rfl (vp_lit (by decide)) (show Int32.toNatClampNeg 13 = 13 by decide) rfl ?_
  refine r_arrI (f2 := fun p => mI (sW S p)) (ws2 := [_, _, _, (_, .inl (_, _, .inl _)), _]) 3 rfl (fun j _ => upd_id j) rfl ?_
  refine r_iinc (v := 14) (lv2 := [_, _]) 129 dX3_passAll_129 rfl (by decide) (by decide) rfl rfl ?_
  refine r_goto 132 91 dX3_passAll_132 (by decide) ?_
  refine r_iload_n 91 dX3_passAll_91 rfl ?_
  refine r_bipush (v := 16) 92 dX3_passAll_92 (by decide) ?_
  refine r_icmp_geF 94 135 dX3_passAll_94 (by decide) (by decide) ?_
  refine r_aload_n 97 dX3_passAll_97 rfl ?_
  refine r_get 98 f_X3_13 dX3_passAll_98 0 rfl rfl ?_
  refine r_iload_n 101 dX3_passAll_101 rfl ?_
  refine r_aload_n 102 dX3_passAll_102 rfl ?_
  refine r_aload_n 103 dX3_passAll_103 rfl ?_
  refine r_get 104 f_X3_13 dX3_passAll_104 0 rfl rfl ?_
  refine r_iload_n 107 dX3_passAll_107 rfl ?_
  refine r_iaload 108 dX3_passAll_108 2 rfl (vp_lit (by decide)) (show Int32.toNatClampNeg 14 = 14 by decide) ?_
  refine r_callVD (ws2 := [_, _, _, _, _]) (wr := []) 109 s_X3_213 dX3_passAll_109 (m_pass1 (a := 37) (by decide)) rfl rfl 0 rfl rfl rfl [0, 1, 2, 3, 4] [] rfl rfl rfl rfl (by decide) jRm_ok (Nat.le_of_ble_eq_true rfl) ⟨(Nat.le_of_ble_eq_true rfl), (Nat.le_of_ble_eq_true rfl)⟩ [0, 1, 2, 3, 4] rfl rfl ?_
  refine r_arrI (f2 := kpW S 0 kp 38) (ws2 := [_, _, _, _, (_, .inl (_, _, .inl _))]) 4 rfl (fun j _ => kpW_s (lo := 0) (k := 37) rfl j) rfl ?_
  refine r_iastore (ws2 := [_, _, (_, .inl (_, _, .inl _)), _, _]) 112 dX3_passAll_112 2 rfl (vp_lit (by decide)) (show Int32.toNatClampNeg 14 = 14 by decide) rfl ?_
  refine r_arrI (f2 := fun p => fI (sF S p)) (ws2 := [_, _, (_, .inl (_, _, .inl _)), _, _]) 2 rfl (fun j _ => upd_id j) rfl ?_
  refine r_aload_n 113 dX3_passAll_113 rfl ?_
  refine r_get 114 f_X3_16 dX3_passAll_114 0 rfl rfl ?_
  refine r_iload_n 117 dX3_passAll_117 rfl ?_
  refine r_aload_n 118 dX3_passAll_118 rfl ?_
  refine r_aload_n 119 dX3_passAll_119 rfl ?_
  refine r_get 120 f_X3_16 dX3_passAll_120 0 rfl rfl ?_
  refine r_iload_n 123 dX3_passAll_123 rfl ?_
  refine r_iaload 124 dX3_passAll_124 3 rfl (vp_lit (by decide)) (show Int32.toNatClampNeg 14 = 14 by decide) ?_
  refine r_callVD (ws2 := [_, _, _, _, _]) (wr := []) 125 s_X3_213 dX3_passAll_125 (m_pass1 (a := 38) (by decide)) rfl rfl 0 rfl rfl rfl [0, 1, 2, 3, 4] [] rfl rfl rfl rfl (by decide) jRm_ok (Nat.le_of_ble_eq_true rfl) ⟨(Nat.le_of_ble_eq_true rfl), (Nat.le_of_ble_eq_true rfl)⟩ [0, 1, 2, 3, 4] rfl rfl ?_
  refine r_arrI (f2 := kpW S 0 kp 39) (ws2 := [_, _, _, _, (_, .inl (_, _, .inl _))]) 4 rfl (fun j _ => kpW_s (lo := 0) (k := 38) rfl j) rfl ?_
  refine r_iastore (ws2 := [_, _, _, (_, .inl (_, _, .inl _)), _]) 128 dX3_passAll_128 3 rfl (vp_lit (by decide)) (show Int32.toNatClampNeg 14 = 14 by decide) rfl ?_
  refine r_arrI (f2 := fun p => mI (sW S p)) (ws2 := [_, _, _, (_, .inl (_, _, .inl _)), _]) 3 rfl (fun j _ => upd_id j) rfl ?_
  refine r_iinc (v := 15) (lv2 := [_, _]) 129 dX3_passAll_129 rfl (by decide) (by decide) rfl rfl ?_
  refine r_goto 132 91 dX3_passAll_132 (by decide) ?_
  refine r_iload_n 91 dX3_passAll_91 rfl ?_
  refine r_bipush (v := 16) 92 dX3_passAll_92 (by decide) ?_
  refine r_icmp_geF 94 135 dX3_passAll_94 (by decide) (by decide) ?_
  refine r_aload_n 97 dX3_passAll_97 rfl ?_
  refine r_get 98 f_X3_13 dX3_passAll_98 0 rfl rfl ?_
  refine r_iload_n 101 dX3_passAll_101 rfl ?_
  refine r_aload_n 102 dX3_passAll_102 rfl ?_
  refine r_aload_n 103 dX3_passAll_103 rfl ?_
  refine r_get 104 f_X3_13 dX3_passAll_104 0 rfl rfl ?_
  refine r_iload_n 107 dX3_passAll_107 rfl ?_
  refine r_iaload 108 dX3_passAll_108 2 rfl (vp_lit (by decide)) (show Int32.toNatClampNeg 15 = 15 by decide) ?_
  refine r_callVD (ws2 := [_, _, _, _, _]) (wr := []) 109 s_X3_213 dX3_passAll_109 (m_pass1 (a := 39) (by decide)) rfl rfl 0 rfl rfl rfl [0, 1, 2, 3, 4] [] rfl rfl rfl rfl (by decide) jRm_ok (Nat.le_of_ble_eq_true rfl) ⟨(Nat.le_of_ble_eq_true rfl), (Nat.le_of_ble_eq_true rfl)⟩ [0, 1, 2, 3, 4] rfl rfl ?_
  refine r_arrI (f2 := kpW S 0 kp 40) (ws2 := [_, _, _, _, (_, .inl (_, _, .inl _))]) 4 rfl (fun j _ => kpW_s (lo := 0) (k := 39) rfl j) rfl ?_
  refine r_iastore (ws2 := [_, _, (_, .inl (_, _, .inl _)), _, _]) 112 dX3_passAll_112 2 rfl (vp_lit (by decide)) (show Int32.toNatClampNeg 15 = 15 by decide) rfl ?_
  refine r_arrI (f2 := fun p => fI (sF S p)) (ws2 := [_, _, (_, .inl (_, _, .inl _)), _, _]) 2 rfl (fun j _ => upd_id j) rfl ?_
  refine r_aload_n 113 dX3_passAll_113 rfl ?_
  refine r_get 114 f_X3_16 dX3_passAll_114 0 rfl rfl ?_
  refine r_iload_n 117 dX3_passAll_117 rfl ?_
  refine r_aload_n 118 dX3_passAll_118 rfl ?_
  refine r_aload_n 119 dX3_passAll_119 rfl ?_
  refine r_get 120 f_X3_16 dX3_passAll_120 0 rfl rfl ?_
  refine r_iload_n 123 dX3_passAll_123 rfl ?_
  refine r_iaload 124 dX3_passAll_124 3 rfl (vp_lit (by decide)) (show Int32.toNatClampNeg 15 = 15 by decide) ?_
  refine r_callVD (ws2 := [_, _, _, _, _]) (wr := []) 125 s_X3_213 dX3_passAll_125 (m_pass1 (a := 40) (by decide)) rfl rfl 0 rfl rfl rfl [0, 1, 2, 3, 4] [] rfl rfl rfl rfl (by decide) jRm_ok (Nat.le_of_ble_eq_true rfl) ⟨(Nat.le_of_ble_eq_true rfl), (Nat.le_of_ble_eq_true rfl)⟩ [0, 1, 2, 3, 4] rfl rfl ?_
  refine r_arrI (f2 := kpW S 0 kp 41) (ws2 := [_, _, _, _, (_, .inl (_, _, .inl _))]) 4 rfl (fun j _ => kpW_s (lo := 0) (k := 40) rfl j) rfl ?_
  refine r_iastore (ws2 := [_, _, _, (_, .inl (_, _, .inl _)), _]) 128 dX3_passAll_128 3 rfl (vp_lit (by decide)) (show Int32.toNatClampNeg 15 = 15 by decide) rfl ?_
  refine r_arrI (f2 := fun p => mI (sW S p)) (ws2 := [_, _, _, (_, .inl (_, _, .inl _)), _]) 3 rfl (fun j _ => upd_id j) rfl ?_
  refine r_iinc (v := 16) (lv2 := [_, _]) 129 dX3_passAll_129 rfl (by decide) (by decide) rfl rfl ?_
  refine r_goto 132 91 dX3_passAll_132 (by decide) ?_
  refine r_iload_n 91 dX3_passAll_91 rfl ?_
  refine r_bipush (v := 16) 92 dX3_passAll_92 (by decide) ?_
  refine r_icmp_geT 94 135 dX3_passAll_94 (by decide) (by decide) ?_
  exact r_ret 135 dX3_passAll_135 rfl (Nat.le_of_ble_eq_true rfl) (Nat.le_of_ble_eq_true rfl) (jdv rfl)
set_option maxRecDepth 100000 in
set_option maxHeartbeats 400000 in
theorem m_passR0 {G : jG} {d : Nat} {m : Nat} {A : Nat → Nat} {S T : qS} {pm se th : Int32} {kp : Nat → Int32} (hk : ∀ k, k < 41 → kp (0 + k) = imV T k) : Ct G yX3_passAll cX3_passAll 2 none (d + 2) 0 0 [.ref m] (wX G m A (S) pm se th (nI 0) 0 ++ [(A 12, .inl (G.2.2.1, 120, .inl (kp)))]) (jD none (wX G m A (T) pm se th (nI 41) 0 ++ [(A 12, .inl (G.2.2.1, 120, .inl (kp)))])) := by
  refine ct_of (by decide) (Nat.le_of_ble_eq_true rfl) (own := RX3) (nm := "passAll") rfl rfl (lv := [some (.ref m), none]) rfl ?_
  refine r_aload_n 0 dX3_passAll_0 rfl ?_
  refine r_aload_n 1 dX3_passAll_1 rfl ?_
  refine r_aload_n 2 dX3_passAll_2 rfl ?_
  refine r_get 3 f_X3_69 dX3_passAll_3 0 rfl rfl ?_
  refine r_callVD (ws2 := [_, _, _, _, _]) (wr := []) 6 s_X3_213 dX3_passAll_6 (m_pass0 (a := 0) (by decide)) rfl rfl 0 rfl rfl rfl [0, 1, 2, 3, 4] [] rfl rfl rfl rfl (by decide) jRm_ok (Nat.le_of_ble_eq_true rfl) ⟨(Nat.le_of_ble_eq_true rfl), (Nat.le_of_ble_eq_true rfl)⟩ [0, 1, 2, 3, 4] rfl rfl ?_
  refine r_ti (y := imV T 0) (hk 0 (by decide)) ?_
  refine r_put (ws2 := [(_, .inr (_, [_, _, _, _, _, _, _, _, _, _, _, _, _, _, _, _, _, _, _, _, _, _, _, _])), _, _, _, _]) 9 p_X3_69 dX3_passAll_9 0 rfl rfl rfl (Nat.le_of_ble_eq_true rfl) rfl ?_
  refine r_aload_n 12 dX3_passAll_12 rfl ?_
  refine r_aload_n 13 dX3_passAll_13 rfl ?_
  refine r_aload_n 14 dX3_passAll_14 rfl ?_
  refine r_get 15 f_X3_72 dX3_passAll_15 0 rfl rfl ?_
  refine r_callVD (ws2 := [_, _, _, _, _]) (wr := []) 18 s_X3_213 dX3_passAll_18 (m_pass0 (a := 1) (by decide)) rfl rfl 0 rfl rfl rfl [0, 1, 2, 3, 4] [] rfl rfl rfl rfl (by decide) jRm_ok (Nat.le_of_ble_eq_true rfl) ⟨(Nat.le_of_ble_eq_true rfl), (Nat.le_of_ble_eq_true rfl)⟩ [0, 1, 2, 3, 4] rfl rfl ?_
  refine r_ti (y := imV T 1) (hk 1 (by decide)) ?_
  refine r_put (ws2 := [(_, .inr (_, [_, _, _, _, _, _, _, _, _, _, _, _, _, _, _, _, _, _, _, _, _, _, _, _])), _, _, _, _]) 21 p_X3_72 dX3_passAll_21 0 rfl rfl rfl (Nat.le_of_ble_eq_true rfl) rfl ?_
  refine r_aload_n 24 dX3_passAll_24 rfl ?_
  refine r_aload_n 25 dX3_passAll_25 rfl ?_
  refine r_aload_n 26 dX3_passAll_26 rfl ?_
  refine r_get 27 f_X3_55 dX3_passAll_27 0 rfl rfl ?_
  refine r_callVD (ws2 := [_, _, _, _, _]) (wr := []) 30 s_X3_213 dX3_passAll_30 (m_pass0 (a := 2) (by decide)) rfl rfl 0 rfl rfl rfl [0, 1, 2, 3, 4] [] rfl rfl rfl rfl (by decide) jRm_ok (Nat.le_of_ble_eq_true rfl) ⟨(Nat.le_of_ble_eq_true rfl), (Nat.le_of_ble_eq_true rfl)⟩ [0, 1, 2, 3, 4] rfl rfl ?_
  refine r_ti (y := imV T 2) (hk 2 (by decide)) ?_
  refine r_put (ws2 := [(_, .inr (_, [_, _, _, _, _, _, _, _, _, _, _, _, _, _, _, _, _, _, _, _, _, _, _, _])), _, _, _, _]) 33 p_X3_55 dX3_passAll_33 0 rfl rfl rfl (Nat.le_of_ble_eq_true rfl) rfl ?_
  refine r_aload_n 36 dX3_passAll_36 rfl ?_
  refine r_aload_n 37 dX3_passAll_37 rfl ?_
  refine r_aload_n 38 dX3_passAll_38 rfl ?_
  refine r_get 39 f_X3_59 dX3_passAll_39 0 rfl rfl ?_
  refine r_callVD (ws2 := [_, _, _, _, _]) (wr := []) 42 s_X3_213 dX3_passAll_42 (m_pass0 (a := 3) (by decide)) rfl rfl 0 rfl rfl rfl [0, 1, 2, 3, 4] [] rfl rfl rfl rfl (by decide) jRm_ok (Nat.le_of_ble_eq_true rfl) ⟨(Nat.le_of_ble_eq_true rfl), (Nat.le_of_ble_eq_true rfl)⟩ [0, 1, 2, 3, 4] rfl rfl ?_
  refine r_ti (y := imV T 3) (hk 3 (by decide)) ?_
  refine r_put (ws2 := [(_, .inr (_, [_, _, _, _, _, _, _, _, _, _, _, _, _, _, _, _, _, _, _, _, _, _, _, _])), _, _, _, _]) 45 p_X3_59 dX3_passAll_45 0 rfl rfl rfl (Nat.le_of_ble_eq_true rfl) rfl ?_
  refine r_aload_n 48 dX3_passAll_48 rfl ?_
  refine r_aload_n 49 dX3_passAll_49 rfl ?_
  refine r_aload_n 50 dX3_passAll_50 rfl ?_
  refine r_get 51 f_X3_62 dX3_passAll_51 0 rfl rfl ?_
  refine r_callVD (ws2 := [_, _, _, _, _]) (wr := []) 54 s_X3_213 dX3_passAll_54 (m_pass0 (a := 4) (by decide)) rfl rfl 0 rfl rfl rfl [0, 1, 2, 3, 4] [] rfl rfl rfl rfl (by decide) jRm_ok (Nat.le_of_ble_eq_true rfl) ⟨(Nat.le_of_ble_eq_true rfl), (Nat.le_of_ble_eq_true rfl)⟩ [0, 1, 2, 3, 4] rfl rfl ?_
  refine r_ti (y := imV T 4) (hk 4 (by decide)) ?_
  refine r_put (ws2 := [(_, .inr (_, [_, _, _, _, _, _, _, _, _, _, _, _, _, _, _, _, _, _, _, _, _, _, _, _])), _, _, _, _]) 57 p_X3_62 dX3_passAll_57 0 rfl rfl rfl (Nat.le_of_ble_eq_true rfl) rfl ?_
  refine r_iconst (v := 0) 60 dX3_passAll_60 (by decide) ?_
  refine r_istore_n (lv2 := [_, _]) 61 dX3_passAll_61 (by decide) rfl rfl ?_
  refine r_iload_n 62 dX3_passAll_62 rfl ?_
  refine r_iconst (v := 4) 63 dX3_passAll_63 (by decide) ?_
  refine r_icmp_geF 64 89 dX3_passAll_64 (by decide) (by decide) ?_
  refine r_aload_n 67 dX3_passAll_67 rfl ?_
  refine r_get 68 f_X3_7 dX3_passAll_68 0 rfl rfl ?_
  refine r_iload_n 71 dX3_passAll_71 rfl ?_
  refine r_aload_n 72 dX3_passAll_72 rfl ?_
  refine r_aload_n 73 dX3_passAll_73 rfl ?_
  refine r_get 74 f_X3_7 dX3_passAll_74 0 rfl rfl ?_
  refine r_iload_n 77 dX3_passAll_77 rfl ?_
  refine r_iaload 78 dX3_passAll_78 1 rfl (vp_lit (by decide)) (show Int32.toNatClampNeg 0 = 0 by decide) ?_
  refine r_callVD (ws2 := [_, _, _, _, _]) (wr := []) 79 s_X3_213 dX3_passAll_79 (m_pass0 (a := 5) (by decide)) rfl rfl 0 rfl rfl rfl [0, 1, 2, 3, 4] [] rfl rfl rfl rfl (by decide) jRm_ok (Nat.le_of_ble_eq_true rfl) ⟨(Nat.le_of_ble_eq_true rfl), (Nat.le_of_ble_eq_true rfl)⟩ [0, 1, 2, 3, 4] rfl rfl ?_
  refine r_ti (y := imV T 5) (hk 5 (by decide)) ?_
  refine r_iastore (ws2 := [_, (_, .inl (_, _, .inl _)), _, _, _]) 82 dX3_passAll_82 1 rfl (vp_lit (by decide)) (show Int32.toNatClampNeg 0 = 0 by decide) rfl ?_
  refine r_iinc (v := 1) (lv2 := [_, _]) 83 dX3_passAll_83 rfl (by decide) (by decide) rfl rfl ?_
  refine r_goto 86 62 dX3_passAll_86 (by decide) ?_
  refine r_iload_n 62 dX3_passAll_62 rfl ?_
  refine r_iconst (v := 4) 63 dX3_passAll_63 (by decide) ?_
  refine r_icmp_geF 64 89 dX3_passAll_64 (by decide) (by decide) ?_
  refine r_aload_n 67 dX3_passAll_67 rfl ?_
  refine r_get 68 f_X3_7 dX3_passAll_68 0 rfl rfl ?_
  refine r_iload_n 71 dX3_passAll_71 rfl ?_
  refine r_aload_n 72 dX3_passAll_72 rfl ?_
  refine r_aload_n 73 dX3_passAll_73 rfl ?_
  refine r_get 74 f_X3_7 dX3_passAll_74 0 rfl rfl ?_
  refine r_iload_n 77 dX3_passAll_77 rfl ?_
  refine r_iaload 78 dX3_passAll_78 1 rfl (vp_lit (by decide)) (show Int32.toNatClampNeg 1 = 1 by decide) ?_
  refine r_callVD (ws2 := [_, _, _, _, _]) (wr := []) 79 s_X3_213 dX3_passAll_79 (m_pass0 (a := 6) (by decide)) rfl rfl 0 rfl rfl rfl [0, 1, 2, 3, 4] [] rfl rfl rfl rfl (by decide) jRm_ok (Nat.le_of_ble_eq_true rfl) ⟨(Nat.le_of_ble_eq_true rfl), (Nat.le_of_ble_eq_true rfl)⟩ [0, 1, 2, 3, 4] rfl rfl ?_
  refine r_ti (y := imV T 6) (hk 6 (by decide)) ?_
  refine r_iastore (ws2 := [_, (_, .inl (_, _, .inl _)), _, _, _]) 82 dX3_passAll_82 1 rfl (vp_lit (by decide)) (show Int32.toNatClampNeg 1 = 1 by decide) rfl ?_
  refine r_iinc (v := 2) (lv2 := [_, _]) 83 dX3_passAll_83 rfl (by decide) (by decide) rfl rfl ?_
  refine r_goto 86 62 dX3_passAll_86 (by decide) ?_
  refine r_iload_n 62 dX3_passAll_62 rfl ?_
  refine r_iconst (v := 4) 63 dX3_passAll_63 (by decide) ?_
  refine r_icmp_geF 64 89 dX3_passAll_64 (by decide) (by decide) ?_
  refine r_aload_n 67 dX3_passAll_67 rfl ?_
  refine r_get 68 f_X3_7 dX3_passAll_68 0 rfl rfl ?_
  refine r_iload_n 71 dX3_passAll_71 rfl ?_
  refine r_aload_n 72 dX3_passAll_72 rfl ?_
  refine r_aload_n 73 dX3_passAll_73 rfl ?_
  refine r_get 74 f_X3_7 dX3_passAll_74 0 rfl rfl ?_
  refine r_iload_n 77 dX3_passAll_77 rfl ?_
  refine r_iaload 78 dX3_passAll_78 1 rfl (vp_lit (by decide)) (show Int32.toNatClampNeg 2 = 2 by decide) ?_
  refine r_callVD (ws2 := [_, _, _, _, _]) (wr := []) 79 s_X3_213 dX3_passAll_79 (m_pass0 (a := 7) (by decide)) rfl rfl 0 rfl rfl rfl [0, 1, 2, 3, 4] [] rfl rfl rfl rfl (by decide) jRm_ok (Nat.le_of_ble_eq_true rfl) ⟨(Nat.le_of_ble_eq_true rfl), (Nat.le_of_ble_eq_true rfl)⟩ [0, 1, 2, 3, 4] rfl rfl ?_
  refine r_ti (y := imV T 7) (hk 7 (by decide)) ?_
  refine r_iastore (ws2 := [_, (_, .inl (_, _, .inl _)), _, _, _]) 82 dX3_passAll_82 1 rfl (vp_lit (by decide)) (show Int32.toNatClampNeg 2 = 2 by decide) rfl ?_
  refine r_iinc (v := 3) (lv2 := [_, _]) 83 dX3_passAll_83 rfl (by decide) (by decide) rfl rfl ?_
  refine r_goto 86 62 dX3_passAll_86 (by decide) ?_
  refine r_iload_n 62 dX3_passAll_62 rfl ?_
  refine r_iconst (v := 4) 63 dX3_passAll_63 (by decide) ?_
  refine r_icmp_geF 64 89 dX3_passAll_64 (by decide) (by decide) ?_
  refine r_aload_n 67 dX3_passAll_67 rfl ?_
  refine r_get 68 f_X3_7 dX3_passAll_68 0 rfl rfl ?_
  refine r_iload_n 71 dX3_passAll_71 rfl ?_
  refine r_aload_n 72 dX3_passAll_72 rfl ?_
  refine r_aload_n 73 dX3_passAll_73 rfl ?_
  refine r_get 74 f_X3_7 dX3_passAll_74 0 rfl rfl ?_
  refine r_iload_n 77 dX3_passAll_77 rfl ?_
  refine r_iaload 78 dX3_passAll_78 1 rfl (vp_lit (by decide)) (show Int32.toNatClampNeg 3 = 3 by decide) ?_
  refine r_callVD (ws2 := [_, _, _, _, _]) (wr := []) 79 s_X3_213 dX3_passAll_79 (m_pass0 (a := 8) (by decide)) rfl rfl 0 rfl rfl rfl [0, 1, 2, 3, 4] [] rfl rfl rfl rfl (by decide) jRm_ok (Nat.le_of_ble_eq_true rfl) ⟨(Nat.le_of_ble_eq_true rfl), (Nat.le_of_ble_eq_true rfl)⟩ [0, 1, 2, 3, 4] rfl rfl ?_
  refine r_ti (y := imV T 8) (hk 8 (by decide)) ?_
  refine r_iastore (ws2 := [_, (_, .inl (_, _, .inl _)), _, _, _]) 82 dX3_passAll_82 1 rfl (vp_lit (by decide)) (show Int32.toNatClampNeg 3 = 3 by decide) rfl ?_
  refine r_iinc (v := 4) (lv2 := [_, _]) 83 dX3_passAll_83 rfl (by decide) (by decide) rfl rfl ?_
  refine r_goto 86 62 dX3_passAll_86 (by decide) ?_
  refine r_iload_n 62 dX3_passAll_62 rfl ?_
  refine r_iconst (v := 4) 63 dX3_passAll_63 (by decide) ?_
  refine r_icmp_geT 64 89 dX3_passAll_64 (by decide) (by decide) ?_
  refine r_iconst (v := 0) 89 dX3_passAll_89 (by decide) ?_
  refine r_istore_n (lv2 := [_, _]) 90 dX3_passAll_90 (by decide) rfl rfl ?_
  refine r_iload_n 91 dX3_passAll_91 rfl ?_
  refine r_bipush (v := 16) 92 dX3_passAll_92 (by decide) ?_
  refine r_icmp_geF 94 135 dX3_passAll_94 (by decide) (by decide) ?_
  refine r_aload_n 97 dX3_passAll_97 rfl ?_
  refine r_get 98 f_X3_13 dX3_passAll_98 0 rfl rfl ?_
  refine r_iload_n 101 dX3_passAll_101 rfl ?_
  refine r_aload_n 102 dX3_passAll_102 rfl ?_
  refine r_aload_n 103 dX3_passAll_103 rfl ?_
  refine r_get 104 f_X3_13 dX3_passAll_104 0 rfl rfl ?_
  refine r_iload_n 107 dX3_passAll_107 rfl ?_
  refine r_iaload 108 dX3_passAll_108 2 rfl (vp_lit (by decide)) (show Int32.toNatClampNeg 0 = 0 by decide) ?_
  refine r_callVD (ws2 := [_, _, _, _, _]) (wr := []) 109 s_X3_213 dX3_passAll_109 (m_pass0 (a := 9) (by decide)) rfl rfl 0 rfl rfl rfl [0, 1, 2, 3, 4] [] rfl rfl rfl rfl (by decide) jRm_ok (Nat.le_of_ble_eq_true rfl) ⟨(Nat.le_of_ble_eq_true rfl), (Nat.le_of_ble_eq_true rfl)⟩ [0, 1, 2, 3, 4] rfl rfl ?_
  refine r_ti (y := imV T 9) (hk 9 (by decide)) ?_
  refine r_iastore (ws2 := [_, _, (_, .inl (_, _, .inl _)), _, _]) 112 dX3_passAll_112 2 rfl (vp_lit (by decide)) (show Int32.toNatClampNeg 0 = 0 by decide) rfl ?_
  refine r_aload_n 113 dX3_passAll_113 rfl ?_
  refine r_get 114 f_X3_16 dX3_passAll_114 0 rfl rfl ?_
  refine r_iload_n 117 dX3_passAll_117 rfl ?_
  refine r_aload_n 118 dX3_passAll_118 rfl ?_
  refine r_aload_n 119 dX3_passAll_119 rfl ?_
  refine r_get 120 f_X3_16 dX3_passAll_120 0 rfl rfl ?_
  refine r_iload_n 123 dX3_passAll_123 rfl ?_
  refine r_iaload 124 dX3_passAll_124 3 rfl (vp_lit (by decide)) (show Int32.toNatClampNeg 0 = 0 by decide) ?_
  refine r_callVD (ws2 := [_, _, _, _, _]) (wr := []) 125 s_X3_213 dX3_passAll_125 (m_pass0 (a := 10) (by decide)) rfl rfl 0 rfl rfl rfl [0, 1, 2, 3, 4] [] rfl rfl rfl rfl (by decide) jRm_ok (Nat.le_of_ble_eq_true rfl) ⟨(Nat.le_of_ble_eq_true rfl), (Nat.le_of_ble_eq_true rfl)⟩ [0, 1, 2, 3, 4] rfl rfl ?_
  refine r_ti (y := imV T 10) (hk 10 (by decide)) ?_
  refine r_iastore (ws2 := [_, _, _, (_, .inl (_, _, .inl _)), _]) 128 dX3_passAll_128 3 rfl (vp_lit (by decide)) (show Int32.toNatClampNeg 0 = 0 by decide) rfl ?_
  refine r_iinc (v := 1) (lv2 := [_, _]) 129 dX3_passAll_129 rfl (by decide) (by decide) rfl rfl ?_
  refine r_goto 132 91 dX3_passAll_132 (by decide) ?_
  refine r_iload_n 91 dX3_passAll_91 rfl ?_
  refine r_bipush (v := 16) 92 dX3_passAll_92 (by decide) ?_
  refine r_icmp_geF 94 135 dX3_passAll_94 (by decide) (by decide) ?_
  refine r_aload_n 97 dX3_passAll_97 rfl ?_
  refine r_get 98 f_X3_13 dX3_passAll_98 0 rfl rfl ?_
  refine r_iload_n 101 dX3_passAll_101 rfl ?_
  refine r_aload_n 102 dX3_passAll_102 rfl ?_
  refine r_aload_n 103 dX3_passAll_103 rfl ?_
  refine r_get 104 f_X3_13 dX3_passAll_104 0 rfl rfl ?_
  refine r_iload_n 107 dX3_passAll_107 rfl ?_
  refine r_iaload 108 dX3_passAll_108 2 rfl (vp_lit (by decide)) (show Int32.toNatClampNeg 1 = 1 by decide) ?_
  refine r_callVD (ws2 := [_, _, _, _, _]) (wr := []) 109 s_X3_213 dX3_passAll_109 (m_pass0 (a := 11) (by decide)) rfl rfl 0 rfl rfl rfl [0, 1, 2, 3, 4] [] rfl rfl rfl rfl (by decide) jRm_ok (Nat.le_of_ble_eq_true rfl) ⟨(Nat.le_of_ble_eq_true rfl), (Nat.le_of_ble_eq_true rfl)⟩ [0, 1, 2, 3, 4] rfl rfl ?_
  refine r_ti (y := imV T 11) (hk 11 (by decide)) ?_
  refine r_iastore (ws2 := [_, _, (_, .inl (_, _, .inl _)), _, _]) 112 dX3_passAll_112 2 rfl (vp_lit (by decide)) (show Int32.toNatClampNeg 1 = 1 by decide) rfl ?_
  refine r_aload_n 113 dX3_passAll_113 rfl ?_
  refine r_get 114 f_X3_16 dX3_passAll_114 0 rfl rfl ?_
  refine r_iload_n 117 dX3_passAll_117 rfl ?_
  refine r_aload_n 118 dX3_passAll_118 rfl ?_
  refine r_aload_n 119 dX3_passAll_119 rfl ?_
  refine r_get 120 f_X3_16 dX3_passAll_120 0 rfl rfl ?_
  refine r_iload_n 123 dX3_passAll_123 rfl ?_
  refine r_iaload 124 dX3_passAll_124 3 rfl (vp_lit (by decide)) (show Int32.toNatClampNeg 1 = 1 by decide) ?_
  refine r_callVD (ws2 := [_, _, _, _, _]) (wr := []) 125 s_X3_213 dX3_passAll_125 (m_pass0 (a := 12) (by decide)) rfl rfl 0 rfl rfl rfl [0, 1, 2, 3, 4] [] rfl rfl rfl rfl (by decide) jRm_ok (Nat.le_of_ble_eq_true rfl) ⟨(Nat.le_of_ble_eq_true rfl), (Nat.le_of_ble_eq_true rfl)⟩ [0, 1, 2, 3, 4] rfl rfl ?_
  refine r_ti (y := imV T 12) (hk 12 (by decide)) ?_
  refine r_iastore (ws2 := [_, _, _, (_, .inl (_, _, .inl _)), _]) 128 dX3_passAll_128 3 rfl (vp_lit (by decide)) (show Int32.toNatClampNeg 1 = 1 by decide) rfl ?_
  refine r_iinc (v := 2) (lv2 := [_, _]) 129 dX3_passAll_129 rfl (by decide) (by decide) rfl rfl ?_
  refine r_goto 132 91 dX3_passAll_132 (by decide) ?_
  refine r_iload_n 91 dX3_passAll_91 rfl ?_
  refine r_bipush (v := 16) 92 dX3_passAll_92 (by decide) ?_
  refine r_icmp_geF 94 135 dX3_passAll_94 (by decide) (by decide) ?_
  refine r_aload_n 97 dX3_passAll_97 rfl ?_
  refine r_get 98 f_X3_13 dX3_passAll_98 0 rfl rfl ?_
  refine r_iload_n 101 dX3_passAll_101 rfl ?_
  refine r_aload_n 102 dX3_passAll_102 rfl ?_
  refine r_aload_n 103 dX3_passAll_103 rfl ?_
  refine r_get 104 f_X3_13 dX3_passAll_104 0 rfl rfl ?_
  refine r_iload_n 107 dX3_passAll_107 rfl ?_
  refine r_iaload 108 dX3_passAll_108 2 rfl (vp_lit (by decide)) (show Int32.toNatClampNeg 2 = 2 by decide) ?_
  refine r_callVD (ws2 := [_, _, _, _, _]) (wr := []) 109 s_X3_213 dX3_passAll_109 (m_pass0 (a := 13) (by decide)) rfl rfl 0 rfl rfl rfl [0, 1, 2, 3, 4] [] rfl rfl rfl rfl (by decide) jRm_ok (Nat.le_of_ble_eq_true rfl) ⟨(Nat.le_of_ble_eq_true rfl), (Nat.le_of_ble_eq_true rfl)⟩ [0, 1, 2, 3, 4] rfl rfl ?_
  refine r_ti (y := imV T 13) (hk 13 (by decide)) ?_
  refine r_iastore (ws2 := [_, _, (_, .inl (_, _, .inl _)), _, _]) 112 dX3_passAll_112 2 rfl (vp_lit (by decide)) (show Int32.toNatClampNeg 2 = 2 by decide) rfl ?_
  refine r_aload_n 113 dX3_passAll_113 rfl ?_
  refine r_get 114 f_X3_16 dX3_passAll_114 0 rfl rfl ?_
  refine r_iload_n 117 dX3_passAll_117 rfl ?_
  refine r_aload_n 118 dX3_passAll_118 rfl ?_
  refine r_aload_n 119 dX3_passAll_119 rfl ?_
  refine r_get 120 f_X3_16 dX3_passAll_120 0 rfl rfl ?_
  refine r_iload_n 123 dX3_passAll_123 rfl ?_
  refine r_iaload 124 dX3_passAll_124 3 rfl (vp_lit (by decide)) (show Int32.toNatClampNeg 2 = 2 by decide) ?_
  refine r_callVD (ws2 := [_, _, _, _, _]) (wr := []) 125 s_X3_213 dX3_passAll_125 (m_pass0 (a := 14) (by decide)) rfl rfl 0 rfl rfl rfl [0, 1, 2, 3, 4] [] rfl rfl rfl rfl (by decide) jRm_ok (Nat.le_of_ble_eq_true rfl) ⟨(Nat.le_of_ble_eq_true rfl), (Nat.le_of_ble_eq_true rfl)⟩ [0, 1, 2, 3, 4] rfl rfl ?_
  refine r_ti (y := imV T 14) (hk 14 (by decide)) ?_
  refine r_iastore (ws2 := [_, _, _, (_, .inl (_, _, .inl _)), _]) 128 dX3_passAll_128 3 rfl (vp_lit (by decide)) (show Int32.toNatClampNeg 2 = 2 by decide) rfl ?_
  refine r_iinc (v := 3) (lv2 := [_, _]) 129 dX3_passAll_129 rfl (by decide) (by decide) rfl rfl ?_
  refine r_goto 132 91 dX3_passAll_132 (by decide) ?_
  refine r_iload_n 91 dX3_passAll_91 rfl ?_
  refine r_bipush (v := 16) 92 dX3_passAll_92 (by decide) ?_
  refine r_icmp_geF 94 135 dX3_passAll_94 (by decide) (by decide) ?_
  refine r_aload_n 97 dX3_passAll_97 rfl ?_
  refine r_get 98 f_X3_13 dX3_passAll_98 0 rfl rfl ?_
  refine r_iload_n 101 dX3_passAll_101 rfl ?_
  refine r_aload_n 102 dX3_passAll_102 rfl ?_
  refine r_aload_n 103 dX3_passAll_103 rfl ?_
  refine r_get 104 f_X3_13 dX3_passAll_104 0 rfl rfl ?_
  refine r_iload_n 107 dX3_passAll_107 rfl ?_
  refine r_iaload 108 dX3_passAll_108 2 rfl (vp_lit (by decide)) (show Int32.toNatClampNeg 3 = 3 by decide) ?_
  refine r_callVD (ws2 := [_, _, _, _, _]) (wr := []) 109 s_X3_213 dX3_passAll_109 (m_pass0 (a := 15) (by decide)) rfl rfl 0 rfl rfl rfl [0, 1, 2, 3, 4] [] rfl rfl rfl rfl (by decide) jRm_ok (Nat.le_of_ble_eq_true rfl) ⟨(Nat.le_of_ble_eq_true rfl), (Nat.le_of_ble_eq_true rfl)⟩ [0, 1, 2, 3, 4] rfl rfl ?_
  refine r_ti (y := imV T 15) (hk 15 (by decide)) ?_
  refine r_iastore (ws2 := [_, _, (_, .inl (_, _, .inl _)), _, _]) 112 dX3_passAll_112 2 rfl (vp_lit (by decide)) (show Int32.toNatClampNeg 3 = 3 by decide) rfl ?_
  refine r_aload_n 113 dX3_passAll_113 rfl ?_
  refine r_get 114 f_X3_16 dX3_passAll_114 0 rfl rfl ?_
  refine r_iload_n 117 dX3_passAll_117 rfl ?_
  refine r_aload_n 118 dX3_passAll_118 rfl ?_
  refine r_aload_n 119 dX3_passAll_119 rfl ?_
  refine r_get 120 f_X3_16 dX3_passAll_120 0 rfl rfl ?_
  refine r_iload_n 123 dX3_passAll_123 rfl ?_
  refine r_iaload 124 dX3_passAll_124 3 rfl (vp_lit (by decide)) (show Int32.toNatClampNeg 3 = 3 by decide) ?_
  refine r_callVD (ws2 := [_, _, _, _, _]) (wr := []) 125 s_X3_213 dX3_passAll_125 (m_pass0 (a := 16) (by decide)) rfl rfl 0 rfl rfl rfl [0, 1, 2, 3, 4] [] rfl rfl rfl rfl (by decide) jRm_ok (Nat.le_of_ble_eq_true rfl) ⟨(Nat.le_of_ble_eq_true rfl), (Nat.le_of_ble_eq_true rfl)⟩ [0, 1, 2, 3, 4] rfl rfl ?_
  refine r_ti (y := imV T 16) (hk 16 (by decide)) ?_
  refine r_iastore (ws2 := [_, _, _, (_, .inl (_, _, .inl _)), _]) 128 dX3_passAll_128 3 rfl (vp_lit (by decide)) (show Int32.toNatClampNeg 3 = 3 by decide) rfl ?_
  refine r_iinc (v := 4) (lv2 := [_, _]) 129 dX3_passAll_129 rfl (by decide) (by decide) rfl rfl ?_
  refine r_goto 132 91 dX3_passAll_132 (by decide) ?_
  refine r_iload_n 91 dX3_passAll_91 rfl ?_
  refine r_bipush (v := 16) 92 dX3_passAll_92 (by decide) ?_
  refine r_icmp_geF 94 135 dX3_passAll_94 (by decide) (by decide) ?_
  refine r_aload_n 97 dX3_passAll_97 rfl ?_
  refine r_get 98 f_X3_13 dX3_passAll_98 0 rfl rfl ?_
  refine r_iload_n 101 dX3_passAll_101 rfl ?_
  refine r_aload_n 102 dX3_passAll_102 rfl ?_
  refine r_aload_n 103 dX3_passAll_103 rfl ?_
  refine r_get 104 f_X3_13 dX3_passAll_104 0 rfl rfl ?_
  refine r_iload_n 107 dX3_passAll_107 rfl ?_
  refine r_iaload 108 dX3_passAll_108 2 rfl (vp_lit (by decide)) (show Int32.toNatClampNeg 4 = 4 by decide) ?_
  refine r_callVD (ws2 := [_, _, _, _, _]) (wr := []) 109 s_X3_213 dX3_passAll_109 (m_pass0 (a := 17) (by decide)) rfl rfl 0 rfl rfl rfl [0, 1, 2, 3, 4] [] rfl rfl rfl rfl (by decide) jRm_ok (Nat.le_of_ble_eq_true rfl) ⟨(Nat.le_of_ble_eq_true rfl), (Nat.le_of_ble_eq_true rfl)⟩ [0, 1, 2, 3, 4] rfl rfl ?_
  refine r_ti (y := imV T 17) (hk 17 (by decide)) ?_
  refine r_iastore (ws2 := [_, _, (_, .inl (_, _, .inl _)), _, _]) 112 dX3_passAll_112 2 rfl (vp_lit (by decide)) (show Int32.toNatClampNeg 4 = 4 by decide) rfl ?_
  refine r_aload_n 113 dX3_passAll_113 rfl ?_
  refine r_get 114 f_X3_16 dX3_passAll_114 0 rfl rfl ?_
  refine r_iload_n 117 dX3_passAll_117 rfl ?_
  refine r_aload_n 118 dX3_passAll_118 rfl ?_
  refine r_aload_n 119 dX3_passAll_119 rfl ?_
  refine r_get 120 f_X3_16 dX3_passAll_120 0 rfl rfl ?_
  refine r_iload_n 123 dX3_passAll_123 rfl ?_
  refine r_iaload 124 dX3_passAll_124 3 rfl (vp_lit (by decide)) (show Int32.toNatClampNeg 4 = 4 by decide) ?_
  refine r_callVD (ws2 := [_, _, _, _, _]) (wr := []) 125 s_X3_213 dX3_passAll_125 (m_pass0 (a := 18) (by decide)) rfl rfl 0 rfl rfl rfl [0, 1, 2, 3, 4] [] rfl rfl rfl rfl (by decide) jRm_ok (Nat.le_of_ble_eq_true rfl) ⟨(Nat.le_of_ble_eq_true rfl), (Nat.le_of_ble_eq_true rfl)⟩ [0, 1, 2, 3, 4] rfl rfl ?_
  refine r_ti (y := imV T 18) (hk 18 (by decide)) ?_
  refine r_iastore (ws2 := [_, _, _, (_, .inl (_, _, .inl _)), _]) 128 dX3_passAll_128 3 rfl (vp_lit (by decide)) (show Int32.toNatClampNeg 4 = 4 by decide) rfl ?_
  refine r_iinc (v := 5) (lv2 := [_, _]) 129 dX3_passAll_129 rfl (by decide) (by decide) rfl rfl ?_
  refine r_goto 132 91 dX3_passAll_132 (by decide) ?_
  refine r_iload_n 91 dX3_passAll_91 rfl ?_
  refine r_bipush (v := 16) 92 dX3_passAll_92 (by decide) ?_
  refine r_icmp_geF 94 135 dX3_passAll_94 (by decide) (by decide) ?_
  refine r_aload_n 97 dX3_passAll_97 rfl ?_
  refine r_get 98 f_X3_13 dX3_passAll_98 0 rfl rfl ?_
  refine r_iload_n 101 dX3_passAll_101 rfl ?_
  refine r_aload_n 102 dX3_passAll_102 rfl ?_
  refine r_aload_n 103 dX3_passAll_103 rfl ?_
  refine r_get 104 f_X3_13 dX3_passAll_104 0 rfl rfl ?_
  refine r_iload_n 107 dX3_passAll_107 rfl ?_
  refine r_iaload 108 dX3_passAll_108 2 rfl (vp_lit (by decide)) (show Int32.toNatClampNeg 5 = 5 by decide) ?_
  refine r_callVD (ws2 := [_, _, _, _, _]) (wr := []) 109 s_X3_213 dX3_passAll_109 (m_pass0 (a := 19) (by decide)) rfl rfl 0 rfl rfl rfl [0, 1, 2, 3, 4] [] rfl rfl rfl rfl (by decide) jRm_ok (Nat.le_of_ble_eq_true rfl) ⟨(Nat.le_of_ble_eq_true rfl), (Nat.le_of_ble_eq_true rfl)⟩ [0, 1, 2, 3, 4] rfl rfl ?_
  refine r_ti (y := imV T 19) (hk 19 (by decide)) ?_
  refine r_iastore (ws2 := [_, _, (_, .inl (_, _, .inl _)), _, _]) 112 dX3_passAll_112 2 rfl (vp_lit (by decide)) (show Int32.toNatClampNeg 5 = 5 by decide) rfl ?_
  refine r_aload_n 113 dX3_passAll_113 rfl ?_
  refine r_get 114 f_X3_16 dX3_passAll_114 0 rfl rfl ?_
  refine r_iload_n 117 dX3_passAll_117 rfl ?_
  refine r_aload_n 118 dX3_passAll_118 rfl ?_
  refine r_aload_n 119 dX3_passAll_119 rfl ?_
  refine r_get 120 f_X3_16 dX3_passAll_120 0 rfl rfl ?_
  refine r_iload_n 123 dX3_passAll_123 rfl ?_
  refine r_iaload 124 dX3_passAll_124 3 rfl (vp_lit (by decide)) (show Int32.toNatClampNeg 5 = 5 by decide) ?_
  refine r_callVD (ws2 := [_, _, _, _, _]) (wr := []) 125 s_X3_213 dX3_passAll_125 (m_pass0 (a := 20) (by decide)) rfl rfl 0 rfl rfl rfl [0, 1, 2, 3, 4] [] rfl rfl rfl rfl (by decide) jRm_ok (Nat.le_of_ble_eq_true rfl) ⟨(Nat.le_of_ble_eq_true rfl), (Nat.le_of_ble_eq_true rfl)⟩ [0, 1, 2, 3, 4] rfl rfl ?_
  refine r_ti (y := imV T 20) (hk 20 (by decide)) ?_
  refine r_iastore (ws2 := [_, _, _, (_, .inl (_, _, .inl _)), _]) 128 dX3_passAll_128 3 rfl (vp_lit (by decide)) (show Int32.toNatClampNeg 5 = 5 by decide) rfl ?_
  refine r_iinc (v := 6) (lv2 := [_, _]) 129 dX3_passAll_129 rfl (by decide) (by decide) rfl rfl ?_
  refine r_goto 132 91 dX3_passAll_132 (by decide) ?_
  refine r_iload_n 91 dX3_passAll_91 rfl ?_
  refine r_bipush (v := 16) 92 dX3_passAll_92 (by decide) ?_
  refine r_icmp_geF 94 135 dX3_passAll_94 (by decide) (by decide) ?_
  refine r_aload_n 97 dX3_passAll_97 rfl ?_
  refine r_get 98 f_X3_13 dX3_passAll_98 0 rfl rfl ?_
  refine r_iload_n 101 dX3_passAll_101 rfl ?_
  refine r_aload_n 102 dX3_passAll_102 rfl ?_
  refine r_aload_n 103 dX3_passAll_103 rfl ?_
  refine r_get 104 f_X3_13 dX3_passAll_104 0 rfl rfl ?_
  refine r_iload_n 107 dX3_passAll_107 rfl ?_
  refine r_iaload 108 dX3_passAll_108 2 rfl (vp_lit (by decide)) (show Int32.toNatClampNeg 6 = 6 by decide) ?_
  refine r_callVD (ws2 := [_, _, _, _, _]) (wr := []) 109 s_X3_213 dX3_passAll_109 (m_pass0 (a := 21) (by decide)) rfl rfl 0 rfl rfl rfl [0, 1, 2, 3, 4] [] rfl rfl rfl rfl (by decide) jRm_ok (Nat.le_of_ble_eq_true rfl) ⟨(Nat.le_of_ble_eq_true rfl), (Nat.le_of_ble_eq_true rfl)⟩ [0, 1, 2, 3, 4] rfl rfl ?_
  refine r_ti (y := imV T 21) (hk 21 (by decide)) ?_
  refine r_iastore (ws2 := [_, _, (_, .inl (_, _, .inl _)), _, _]) 112 dX3_passAll_112 2 rfl (vp_lit (by decide)) (show Int32.toNatClampNeg 6 = 6 by decide) rfl ?_
  refine r_aload_n 113 dX3_passAll_113 rfl ?_
  refine r_get 114 f_X3_16 dX3_passAll_114 0 rfl rfl ?_
  refine r_iload_n 117 dX3_passAll_117 rfl ?_
  refine r_aload_n 118 dX3_passAll_118 rfl ?_
  refine r_aload_n 119 dX3_passAll_119 rfl ?_
  refine r_get 120 f_X3_16 dX3_passAll_120 0 rfl rfl ?_
  refine r_iload_n 123 dX3_passAll_123 rfl ?_
  refine r_iaload 124 dX3_passAll_124 3 rfl (vp_lit (by decide)) (show Int32.toNatClampNeg 6 = 6 by decide) ?_
  refine r_callVD (ws2 := [_, _, _, _, _]) (wr := []) 125 s_X3_213 dX3_passAll_125 (m_pass0 (a := 22) (by decide)) rfl rfl 0 rfl rfl rfl [0, 1, 2, 3, 4] [] rfl rfl rfl rfl (by decide) jRm_ok (Nat.le_of_ble_eq_true rfl) ⟨(Nat.le_of_ble_eq_true rfl), (Nat.le_of_ble_eq_true rfl)⟩ [0, 1, 2, 3, 4] rfl rfl ?_
  refine r_ti (y := imV T 22) (hk 22 (by decide)) ?_
  refine r_iastore (ws2 := [_, _, _, (_, .inl (_, _, .inl _)), _]) 128 dX3_passAll_128 3 rfl (vp_lit (by decide)) (show Int32.toNatClampNeg 6 = 6 by decide) rfl ?_
  refine r_iinc (v := 7) (lv2 := [_, _]) 129 dX3_passAll_129 rfl (by decide) (by decide) rfl rfl ?_
  refine r_goto 132 91 dX3_passAll_132 (by decide) ?_
  refine r_iload_n 91 dX3_passAll_91 rfl ?_
  refine r_bipush (v := 16) 92 dX3_passAll_92 (by decide) ?_
  refine r_icmp_geF 94 135 dX3_passAll_94 (by decide) (by decide) ?_
  refine r_aload_n 97 dX3_passAll_97 rfl ?_
  refine r_get 98 f_X3_13 dX3_passAll_98 0 rfl rfl ?_
  refine r_iload_n 101 dX3_passAll_101 rfl ?_
  refine r_aload_n 102 dX3_passAll_102 rfl ?_
  refine r_aload_n 103 dX3_passAll_103 rfl ?_
  refine r_get 104 f_X3_13 dX3_passAll_104 0 rfl rfl ?_
  refine r_iload_n 107 dX3_passAll_107 rfl ?_
  refine r_iaload 108 dX3_passAll_108 2 rfl (vp_lit (by decide)) (show Int32.toNatClampNeg 7 = 7 by decide) ?_
  refine r_callVD (ws2 := [_, _, _, _, _]) (wr := []) 109 s_X3_213 dX3_passAll_109 (m_pass0 (a := 23) (by decide)) rfl rfl 0 rfl rfl rfl [0, 1, 2, 3, 4] [] rfl rfl rfl rfl (by decide) jRm_ok (Nat.le_of_ble_eq_true rfl) ⟨(Nat.le_of_ble_eq_true rfl), (Nat.le_of_ble_eq_true rfl)⟩ [0, 1, 2, 3, 4] rfl rfl ?_
  refine r_ti (y := imV T 23) (hk 23 (by decide)) ?_
  refine r_iastore (ws2 := [_, _, (_, .inl (_, _, .inl _)), _, _]) 112 dX3_passAll_112 2 rfl (vp_lit (by decide)) (show Int32.toNatClampNeg 7 = 7 by decide) rfl ?_
  refine r_aload_n 113 dX3_passAll_113 rfl ?_
  refine r_get 114 f_X3_16 dX3_passAll_114 0 rfl rfl ?_
  refine r_iload_n 117 dX3_passAll_117 rfl ?_
  refine r_aload_n 118 dX3_passAll_118 rfl ?_
  refine r_aload_n 119 dX3_passAll_119 rfl ?_
  refine r_get 120 f_X3_16 dX3_passAll_120 0 rfl rfl ?_
  refine r_iload_n 123 dX3_passAll_123 rfl ?_
  refine r_iaload 124 dX3_passAll_124 3 rfl (vp_lit (by decide)) (show Int32.toNatClampNeg 7 = 7 by decide) ?_
  refine r_callVD (ws2 := [_, _, _, _, _]) (wr := []) 125 s_X3_213 dX3_passAll_125 (m_pass0 (a := 24) (by decide)) rfl rfl 0 rfl rfl rfl [0, 1, 2, 3, 4] [] rfl rfl rfl rfl (by decide) jRm_ok (Nat.le_of_ble_eq_true rfl) ⟨(Nat.le_of_ble_eq_true rfl), (Nat.le_of_ble_eq_true rfl)⟩ [0, 1, 2, 3, 4] rfl rfl ?_
  refine r_ti (y := imV T 24) (hk 24 (by decide)) ?_
  refine r_iastore (ws2 := [_, _, _, (_, .inl (_, _, .inl _)), _]) 128 dX3_passAll_128 3 rfl (vp_lit (by decide)) (show Int32.toNatClampNeg 7 = 7 by decide) rfl ?_
  refine r_iinc (v := 8) (lv2 := [_, _]) 129 dX3_passAll_129 rfl (by decide) (by decide) rfl rfl ?_
  refine r_goto 132 91 dX3_passAll_132 (by decide) ?_
  refine r_iload_n 91 dX3_passAll_91 rfl ?_
  refine r_bipush (v := 16) 92 dX3_passAll_92 (by decide) ?_
  refine r_icmp_geF 94 135 dX3_passAll_94 (by decide) (by decide) ?_
  refine r_aload_n 97 dX3_passAll_97 rfl ?_
  refine r_get 98 f_X3_13 dX3_passAll_98 0 rfl rfl ?_
  refine r_iload_n 101 dX3_passAll_101 rfl ?_
  refine r_aload_n 102 dX3_passAll_102 rfl ?_
  refine r_aload_n 103 dX3_passAll_103 rfl ?_
  refine r_get 104 f_X3_13 dX3_passAll_104 0 rfl rfl ?_
  refine r_iload_n 107 dX3_passAll_107 rfl ?_
  refine r_iaload 108 dX3_passAll_108 2 rfl (vp_lit (by decide)) (show Int32.toNatClampNeg 8 = 8 by decide) ?_
  refine r_callVD (ws2 := [_, _, _, _, _]) (wr := []) 109 s_X3_213 dX3_passAll_109 (m_pass0 (a := 25) (by decide)) rfl rfl 0 rfl rfl rfl [0, 1, 2, 3, 4] [] rfl rfl rfl rfl (by decide) jRm_ok (Nat.le_of_ble_eq_true rfl) ⟨(Nat.le_of_ble_eq_true rfl), (Nat.le_of_ble_eq_true rfl)⟩ [0, 1, 2, 3, 4] rfl rfl ?_
  refine r_ti (y := imV T 25) (hk 25 (by decide)) ?_
  refine r_iastore (ws2 := [_, _, (_, .inl (_, _, .inl _)), _, _]) 112 dX3_passAll_112 2 rfl (vp_lit (by decide)) (show Int32.toNatClampNeg 8 = 8 by decide) rfl ?_
  refine r_aload_n 113 dX3_passAll_113 rfl ?_
  refine r_get 114 f_X3_16 dX3_passAll_114 0 rfl rfl ?_
  refine r_iload_n 117 dX3_passAll_117 rfl ?_
  refine r_aload_n 118 dX3_passAll_118 rfl ?_
  refine r_aload_n 119 dX3_passAll_119 rfl ?_
  refine r_get 120 f_X3_16 dX3_passAll_120 0 rfl rfl ?_
  refine r_iload_n 123 dX3_passAll_123 rfl ?_
  refine r_iaload 124 dX3_passAll_124 3 rfl (vp_lit (by decide)) (show Int32.toNatClampNeg 8 = 8 by decide) ?_
  refine r_callVD (ws2 := [_, _, _, _, _]) (wr := []) 125 s_X3_213 dX3_passAll_125 (m_pass0 (a := 26) (by decide)) rfl rfl 0 rfl rfl rfl [0, 1, 2, 3, 4] [] rfl rfl rfl rfl (by decide) jRm_ok (Nat.le_of_ble_eq_true rfl) ⟨(Nat.le_of_ble_eq_true rfl), (Nat.le_of_ble_eq_true rfl)⟩ [0, 1, 2, 3, 4] rfl rfl ?_
  refine r_ti (y := imV T 26) (hk 26 (by decide)) ?_
  refine r_iastore (ws2 := [_, _, _, (_, .inl (_, _, .inl _)), _]) 128 dX3_passAll_128 3 rfl (vp_lit (by decide)) (show Int32.toNatClampNeg 8 = 8 by decide) rfl ?_
  refine r_iinc (v := 9) (lv2 := [_, _]) 129 dX3_passAll_129 rfl (by decide) (by decide) rfl rfl ?_
  refine r_goto 132 91 dX3_passAll_132 (by decide) ?_
  refine r_iload_n 91 dX3_passAll_91 rfl ?_
  refine r_bipush (v := 16) 92 dX3_passAll_92 (by decide) ?_
  refine r_icmp_geF 94 135 dX3_passAll_94 (by decide) (by decide) ?_
  refine r_aload_n 97 dX3_passAll_97 rfl ?_
  refine r_get 98 f_X3_13 dX3_passAll_98 0 rfl rfl ?_
  refine r_iload_n 101 dX3_passAll_101 rfl ?_
  refine r_aload_n 102 dX3_passAll_102 rfl ?_
  refine r_aload_n 103 dX3_passAll_103 rfl ?_
  refine r_get 104 f_X3_13 dX3_passAll_104 0 rfl rfl ?_
  refine r_iload_n 107 dX3_passAll_107 rfl ?_
  refine r_iaload 108 dX3_passAll_108 2 rfl (vp_lit (by decide)) (show Int32.toNatClampNeg 9 = 9 by decide) ?_
  refine r_callVD (ws2 := [_, _, _, _, _]) (wr := []) 109 s_X3_213 dX3_passAll_109 (m_pass0 (a := 27) (by decide)) rfl rfl 0 rfl rfl rfl [0, 1, 2, 3, 4] [] rfl rfl rfl rfl (by decide) jRm_ok (Nat.le_of_ble_eq_true rfl) ⟨(Nat.le_of_ble_eq_true rfl), (Nat.le_of_ble_eq_true rfl)⟩ [0, 1, 2, 3, 4] rfl rfl ?_
  refine r_ti (y := imV T 27) (hk 27 (by decide)) ?_
  refine r_iastore (ws2 := [_, _, (_, .inl (_, _, .inl _)), _, _]) 112 dX3_passAll_112 2 rfl (vp_lit (by decide)) (show Int32.toNatClampNeg 9 = 9 by decide) rfl ?_
  refine r_aload_n 113 dX3_passAll_113 rfl ?_
  refine r_get 114 f_X3_16 dX3_passAll_114 0 rfl rfl ?_
  refine r_iload_n 117 dX3_passAll_117 rfl ?_
  refine r_aload_n 118 dX3_passAll_118 rfl ?_
  refine r_aload_n 119 dX3_passAll_119 rfl ?_
  refine r_get 120 f_X3_16 dX3_passAll_120 0 rfl rfl ?_
  refine r_iload_n 123 dX3_passAll_123 rfl ?_
  refine r_iaload 124 dX3_passAll_124 3 rfl (vp_lit (by decide)) (show Int32.toNatClampNeg 9 = 9 by decide) ?_
  refine r_callVD (ws2 := [_, _, _, _, _]) (wr := []) 125 s_X3_213 dX3_passAll_125 (m_pass0 (a := 28) (by decide)) rfl rfl 0 rfl rfl rfl [0, 1, 2, 3, 4] [] rfl rfl rfl rfl (by decide) jRm_ok (Nat.le_of_ble_eq_true rfl) ⟨(Nat.le_of_ble_eq_true rfl), (Nat.le_of_ble_eq_true rfl)⟩ [0, 1, 2, 3, 4] rfl rfl ?_
  refine r_ti (y := imV T 28) (hk 28 (by decide)) ?_
  refine r_iastore (ws2 := [_, _, _, (_, .inl (_, _, .inl _)), _]) 128 dX3_passAll_128 3 rfl (vp_lit (by decide)) (show Int32.toNatClampNeg 9 = 9 by decide) rfl ?_
  refine r_iinc (v := 10) (lv2 := [_, _]) 129 dX3_passAll_129 rfl (by decide) (by decide) rfl rfl ?_
  refine r_goto 132 91 dX3_passAll_132 (by decide) ?_
  refine r_iload_n 91 dX3_passAll_91 rfl ?_
  refine r_bipush (v := 16) 92 dX3_passAll_92 (by decide) ?_
  refine r_icmp_geF 94 135 dX3_passAll_94 (by decide) (by decide) ?_
  refine r_aload_n 97 dX3_passAll_97 rfl ?_
  refine r_get 98 f_X3_13 dX3_passAll_98 0 rfl rfl ?_
  refine r_iload_n 101 dX3_passAll_101 rfl ?_
  refine r_aload_n 102 dX3_passAll_102 rfl ?_
  refine r_aload_n 103 dX3_passAll_103 rfl ?_
  refine r_get 104 f_X3_13 dX3_passAll_104 0 rfl rfl ?_
  refine r_iload_n 107 dX3_passAll_107 rfl ?_
  refine r_iaload 108 dX3_passAll_108 2 rfl (vp_lit (by decide)) (show Int32.toNatClampNeg 10 = 10 by decide) ?_
  refine r_callVD (ws2 := [_, _, _, _, _]) (wr := []) 109 s_X3_213 dX3_passAll_109 (m_pass0 (a := 29) (by decide)) rfl rfl 0 rfl rfl rfl [0, 1, 2, 3, 4] [] rfl rfl rfl rfl (by decide) jRm_ok (Nat.le_of_ble_eq_true rfl) ⟨(Nat.le_of_ble_eq_true rfl), (Nat.le_of_ble_eq_true rfl)⟩ [0, 1, 2, 3, 4] rfl rfl ?_
  refine r_ti (y := imV T 29) (hk 29 (by decide)) ?_
  refine r_iastore (ws2 := [_, _, (_, .inl (_, _, .inl _)), _, _]) 112 dX3_passAll_112 2 rfl (vp_lit (by decide)) (show Int32.toNatClampNeg 10 = 10 by decide) rfl ?_
  refine r_aload_n 113 dX3_passAll_113 rfl ?_
  refine r_get 114 f_X3_16 dX3_passAll_114 0 rfl rfl ?_
  refine r_iload_n 117 dX3_passAll_117 rfl ?_
  refine r_aload_n 118 dX3_passAll_118 rfl ?_
  refine r_aload_n 119 dX3_passAll_119 rfl ?_
  refine r_get 120 f_X3_16 dX3_passAll_120 0 rfl rfl ?_
  refine r_iload_n 123 dX3_passAll_123 rfl ?_
  refine r_iaload 124 dX3_passAll_124 3 rfl (vp_lit (by decide)) (show Int32.toNatClampNeg 10 = 10 by decide) ?_
  refine r_callVD (ws2 := [_, _, _, _, _]) (wr := []) 125 s_X3_213 dX3_passAll_125 (m_pass0 (a := 30) (by decide)) rfl rfl 0 rfl rfl rfl [0, 1, 2, 3, 4] [] rfl rfl rfl rfl (by decide) jRm_ok (Nat.le_of_ble_eq_true rfl) ⟨(Nat.le_of_ble_eq_true rfl), (Nat.le_of_ble_eq_true rfl)⟩ [0, 1, 2, 3, 4] rfl rfl ?_
  refine r_ti (y := imV T 30) (hk 30 (by decide)) ?_
  refine r_iastore (ws2 := [_, _, _, (_, .inl (_, _, .inl _)), _]) 128 dX3_passAll_128 3 rfl (vp_lit (by decide)) (show Int32.toNatClampNeg 10 = 10 by decide) rfl ?_
  refine r_iinc (v := 11) (lv2 := [_, _]) 129 dX3_passAll_129 rfl (by decide) (by decide) rfl rfl ?_
  refine r_goto 132 91 dX3_passAll_132 (by decide) ?_
  refine r_iload_n 91 dX3_passAll_91 rfl ?_
  refine r_bipush (v := 16) 92 dX3_passAll_92 (by decide) ?_
  refine r_icmp_geF 94 135 dX3_passAll_94 (by decide) (by decide) ?_
  refine r_aload_n 97 dX3_passAll_97 rfl ?_
  refine r_get 98 f_X3_13 dX3_passAll_98 0 rfl rfl ?_
  refine r_iload_n 101 dX3_passAll_101 rfl ?_
  refine r_aload_n 102 dX3_passAll_102 rfl ?_
  refine r_aload_n 103 dX3_passAll_103 rfl ?_
  refine r_get 104 f_X3_13 dX3_passAll_104 0 rfl rfl ?_
  refine r_iload_n 107 dX3_passAll_107 rfl ?_
  refine r_iaload 108 dX3_passAll_108 2 rfl (vp_lit (by decide)) (show Int32.toNatClampNeg 11 = 11 by decide) ?_
  refine r_callVD (ws2 := [_, _, _, _, _]) (wr := []) 109 s_X3_213 dX3_passAll_109 (m_pass0 (a := 31) (by decide)) rfl rfl 0 rfl rfl rfl [0, 1, 2, 3, 4] [] rfl rfl rfl rfl (by decide) jRm_ok (Nat.le_of_ble_eq_true rfl) ⟨(Nat.le_of_ble_eq_true rfl), (Nat.le_of_ble_eq_true rfl)⟩ [0, 1, 2, 3, 4] rfl rfl ?_
  refine r_ti (y := imV T 31) (hk 31 (by decide)) ?_
  refine r_iastore (ws2 := [_, _, (_, .inl (_, _, .inl _)), _, _]) 112 dX3_passAll_112 2 rfl (vp_lit (by decide)) (show Int32.toNatClampNeg 11 = 11 by decide) rfl ?_
  refine r_aload_n 113 dX3_passAll_113 rfl ?_
  refine r_get 114 f_X3_16 dX3_passAll_114 0 rfl rfl ?_
  refine r_iload_n 117 dX3_passAll_117 rfl ?_
  refine r_aload_n 118 dX3_passAll_118 rfl ?_
  refine r_aload_n 119 dX3_passAll_119 rfl ?_
  refine r_get 120 f_X3_16 dX3_passAll_120 0 rfl rfl ?_
  refine r_iload_n 123 dX3_passAll_123 rfl ?_
  refine r_iaload 124 dX3_passAll_124 3 rfl (vp_lit (by decide)) (show Int32.toNatClampNeg 11 = 11 by decide) ?_
  refine r_callVD (ws2 := [_, _, _, _, _]) (wr := []) 125 s_X3_213 dX3_passAll_125 (m_pass0 (a := 32) (by decide)) rfl rfl 0 rfl rfl rfl [0, 1, 2, 3, 4] [] rfl rfl rfl rfl (by decide) jRm_ok (Nat.le_of_ble_eq_true rfl) ⟨(Nat.le_of_ble_eq_true rfl), (Nat.le_of_ble_eq_true rfl)⟩ [0, 1, 2, 3, 4] rfl rfl ?_
  refine r_ti (y := imV T 32) (hk 32 (by decide)) ?_
  refine r_iastore (ws2 := [_, _, _, (_, .inl (_, _, .inl _)), _]) 128 dX3_passAll_128 3 rfl (vp_lit (by decide)) (show Int32.toNatClampNeg 11 = 11 by decide) rfl ?_
  refine r_iinc (v := 12) (lv2 := [_, _]) 129 dX3_passAll_129 rfl (by decide) (by decide) rfl rfl ?_
  refine r_goto 132 91 dX3_passAll_132 (by decide) ?_
  refine r_iload_n 91 dX3_passAll_91 rfl ?_
  refine r_bipush (v := 16) 92 dX3_passAll_92 (by decide) ?_
  refine r_icmp_geF 94 135 dX3_passAll_94 (by decide) (by decide) ?_
  refine r_aload_n 97 dX3_passAll_97 rfl ?_
  refine r_get 98 f_X3_13 dX3_passAll_98 0 rfl rfl ?_
  refine r_iload_n 101 dX3_passAll_101 rfl ?_
  refine r_aload_n 102 dX3_passAll_102 rfl ?_
  refine r_aload_n 103 dX3_passAll_103 rfl ?_
  refine r_get 104 f_X3_13 dX3_passAll_104 0 rfl rfl ?_
  refine r_iload_n 107 dX3_passAll_107 rfl ?_
  refine r_iaload 108 dX3_passAll_108 2 rfl (vp_lit (by decide)) (show Int32.toNatClampNeg 12 = 12 by decide) ?_
  refine r_callVD (ws2 := [_, _, _, _, _]) (wr := []) 109 s_X3_213 dX3_passAll_109 (m_pass0 (a := 33) (by decide)) rfl rfl 0 rfl rfl rfl [0, 1, 2, 3, 4] [] rfl rfl rfl rfl (by decide) jRm_ok (Nat.le_of_ble_eq_true rfl) ⟨(Nat.le_of_ble_eq_true rfl), (Nat.le_of_ble_eq_true rfl)⟩ [0, 1, 2, 3, 4] rfl rfl ?_
  refine r_ti (y := imV T 33) (hk 33 (by decide)) ?_
  refine r_iastore (ws2 := [_, _, (_, .inl (_, _, .inl _)), _, _]) 112 dX3_passAll_112 2 rfl (vp_lit (by decide)) (show Int32.toNatClampNeg 12 = 12 by decide) rfl ?_
  refine r_aload_n 113 dX3_passAll_113 rfl ?_
  refine r_get 114 f_X3_16 dX3_passAll_114 0 rfl rfl ?_
  refine r_iload_n 117 dX3_passAll_117 rfl ?_
  refine r_aload_n 118 dX3_passAll_118 rfl ?_
  refine r_aload_n 119 dX3_passAll_119 rfl ?_
  refine r_get 120 f_X3_16 dX3_passAll_120 0 rfl rfl ?_
  refine r_iload_n 123 dX3_passAll_123 rfl ?_
  refine r_iaload 124 dX3_passAll_124 3 rfl (vp_lit (by decide)) (show Int32.toNatClampNeg 12 = 12 by decide) ?_
  refine r_callVD (ws2 := [_, _, _, _, _]) (wr := []) 125 s_X3_213 dX3_passAll_125 (m_pass0 (a := 34) (by decide)) rfl rfl 0 rfl rfl rfl [0, 1, 2, 3, 4] [] rfl rfl rfl rfl (by decide) jRm_ok (Nat.le_of_ble_eq_true rfl) ⟨(Nat.le_of_ble_eq_true rfl), (Nat.le_of_ble_eq_true rfl)⟩ [0, 1, 2, 3, 4] rfl rfl ?_
  refine r_ti (y := imV T 34) (hk 34 (by decide)) ?_
  refine r_iastore (ws2 := [_, _, _, (_, .inl (_, _, .inl _)), _]) 128 dX3_passAll_128 3 rfl (vp_lit (by decide)) (show Int32.toNatClampNeg 12 = 12 by decide) rfl ?_
  refine r_iinc (v := 13) (lv2 := [_, _]) 129 dX3_passAll_129 rfl (by decide) (by decide) rfl rfl ?_
  refine r_goto 132 91 dX3_passAll_132 (by decide) ?_
  refine r_iload_n 91 dX3_passAll_91 rfl ?_
  refine r_bipush (v := 16) 92 dX3_passAll_92 (by decide) ?_
  refine r_icmp_geF 94 135 dX3_passAll_94 (by decide) (by decide) ?_
  refine r_aload_n 97 dX3_passAll_97 rfl ?_
  refine r_get 98 f_X3_13 dX3_passAll_98 0 rfl rfl ?_
  refine r_iload_n 101 dX3_passAll_101 rfl ?_
  refine r_aload_n 102 dX3_passAll_102 rfl ?_
  refine r_aload_n 103 dX3_passAll_103 rfl ?_
  refine r_get 104 f_X3_13 dX3_passAll_104 0 rfl rfl ?_
  refine r_iload_n 107 dX3_passAll_107 rfl ?_
  refine r_iaload 108 dX3_passAll_108 2 rfl (vp_lit (by decide)) (show Int32.toNatClampNeg 13 = 13 by decide) ?_
  refine r_callVD (ws2 := [_, _, _, _, _]) (wr := []) 109 s_X3_213 dX3_passAll_109 (m_pass0 (a := 35) (by decide)) rfl rfl 0 rfl rfl rfl [0, 1, 2, 3, 4] [] rfl rfl rfl rfl (by decide) jRm_ok (Nat.le_of_ble_eq_true rfl) ⟨(Nat.le_of_ble_eq_true rfl), (Nat.le_of_ble_eq_true rfl)⟩ [0, 1, 2, 3, 4] rfl rfl ?_
  refine r_ti (y := imV T 35) (hk 35 (by decide)) ?_
  refine r_iastore (ws2 := [_, _, (_, .inl (_, _, .inl _)), _, _]) 112 dX3_passAll_112 2 rfl (vp_lit (by decide)) (show Int32.toNatClampNeg 13 = 13 by decide) rfl ?_
  refine r_aload_n 113 dX3_passAll_113 rfl ?_
  refine r_get 114 f_X3_16 dX3_passAll_114 0 rfl rfl ?_
  refine r_iload_n 117 dX3_passAll_117 rfl ?_
  refine r_aload_n 118 dX3_passAll_118 rfl ?_
  refine r_aload_n 119 dX3_passAll_119 rfl ?_
  refine r_get 120 f_X3_16 dX3_passAll_120 0 rfl rfl ?_
  refine r_iload_n 123 dX3_passAll_123 rfl ?_
  refine r_iaload 124 dX3_passAll_124 3 rfl (vp_lit (by decide)) (show Int32.toNatClampNeg 13 = 13 by decide) ?_
  refine r_callVD (ws2 := [_, _, _, _, _]) (wr := []) 125 s_X3_213 dX3_passAll_125 (m_pass0 (a := 36) (by decide)) rfl rfl 0 rfl rfl rfl [0, 1, 2, 3, 4] [] rfl rfl rfl rfl (by decide) jRm_ok (Nat.le_of_ble_eq_true rfl) ⟨(Nat.le_of_ble_eq_true rfl), (Nat.le_of_ble_eq_true rfl)⟩ [0, 1, 2, 3, 4] rfl rfl ?_
  refine r_ti (y := imV T 36) (hk 36 (by decide)) ?_
  refine r_iastore (ws2 := [_, _, _, (_, .inl (_, _, .inl _)), _]) 128 dX3_passAll_128 3 rfl (vp_lit (by decide)) (show Int32.toNatClampNeg 13 = 13 by decide) rfl ?_
  refine r_iinc (v := 14) (lv2 := [_, _]) 129 dX3_passAll_129 rfl (by decide) (by decide) rfl rfl ?_
  refine r_goto 132 91 dX3_passAll_132 (by decide) ?_
  refine r_iload_n 91 dX3_passAll_91 rfl ?_
  refine r_bipush (v := 16) 92 dX3_passAll_92 (by decide) ?_
  refine r_icmp_geF 94 135 dX3_passAll_94 (by decide) (by decide) ?_
  refine r_aload_n 97 dX3_passAll_97 rfl ?_
  refine r_get 98 f_X3_13 dX3_passAll_98 0 rfl rfl ?_
  refine r_iload_n 101 dX3_passAll_101 rfl ?_
  refine r_aload_n 102 dX3_passAll_102 rfl ?_
  refine r_aload_n 103 dX3_passAll_103 rfl ?_
  refine r_get 104 f_X3_13 dX3_passAll_104 0 rfl rfl ?_
  refine r_iload_n 107 dX3_passAll_107 rfl ?_
  refine r_iaload 108 dX3_passAll_108 2 rfl (vp_lit (by decide)) (show Int32.toNatClampNeg 14 = 14 by decide) ?_
  refine r_callVD (ws2 := [_, _, _, _, _]) (wr := []) 109 s_X3_213 dX3_passAll_109 (m_pass0 (a := 37) (by decide)) rfl rfl 0 rfl rfl rfl [0, 1, 2, 3, 4] [] rfl rfl rfl rfl (by decide) jRm_ok (Nat.le_of_ble_eq_true rfl) ⟨(Nat.le_of_ble_eq_true rfl), (Nat.le_of_ble_eq_true rfl)⟩ [0, 1, 2, 3, 4] rfl rfl ?_
  refine r_ti (y := imV T 37) (hk 37 (by decide)) ?_
  refine r_iastore (ws2 := [_, _, (_, .inl (_, _, .inl _)), _, _]) 112 dX3_passAll_112 2 rfl (vp_lit (by decide)) (show Int32.toNatClampNeg 14 = 14 by decide) rfl ?_
  refine r_aload_n 113 dX3_passAll_113 rfl ?_
  refine r_get 114 f_X3_16 dX3_passAll_114 0 rfl rfl ?_
  refine r_iload_n 117 dX3_passAll_117 rfl ?_
  refine r_aload_n 118 dX3_passAll_118 rfl ?_
  refine r_aload_n 119 dX3_passAll_119 rfl ?_
  refine r_get 120 f_X3_16 dX3_passAll_120 0 rfl rfl ?_
  refine r_iload_n 123 dX3_passAll_123 rfl ?_
  refine r_iaload 124 dX3_passAll_124 3 rfl (vp_lit (by decide)) (show Int32.toNatClampNeg 14 = 14 by decide) ?_
  refine r_callVD (ws2 := [_, _, _, _, _]) (wr := []) 125 s_X3_213 dX3_passAll_125 (m_pass0 (a := 38) (by decide)) rfl rfl 0 rfl rfl rfl [0, 1, 2, 3, 4] [] rfl rfl rfl rfl (by decide) jRm_ok (Nat.le_of_ble_eq_true rfl) ⟨(Nat.le_of_ble_eq_true rfl), (Nat.le_of_ble_eq_true rfl)⟩ [0, 1, 2, 3, 4] rfl rfl ?_
  refine r_ti (y := imV T 38) (hk 38 (by decide)) ?_
  refine r_iastore (ws2 := [_, _, _, (_, .inl (_, _, .inl _)), _]) 128 dX3_passAll_128 3 rfl (vp_lit (by decide)) (show Int32.toNatClampNeg 14 = 14 by decide) rfl ?_
  refine r_iinc (v := 15) (lv2 := [_, _]) 129 dX3_passAll_129 rfl (by decide) (by decide) rfl rfl ?_
  refine r_goto 132 91 dX3_passAll_132 (by decide) ?_
  refine r_iload_n 91 dX3_passAll_91 rfl ?_
  refine r_bipush (v := 16) 92 dX3_passAll_92 (by decide) ?_
  refine r_icmp_geF 94 135 dX3_passAll_94 (by decide) (by decide) ?_
  refine r_aload_n 97 dX3_passAll_97 rfl ?_
  refine r_get 98 f_X3_13 dX3_passAll_98 0 rfl rfl ?_
  refine r_iload_n 101 dX3_passAll_101 rfl ?_
  refine r_aload_n 102 dX3_passAll_102 rfl ?_
  refine r_aload_n 103 dX3_passAll_103 rfl ?_
  refine r_get 104 f_X3_13 dX3_passAll_104 0 rfl rfl ?_
  refine r_iload_n 107 dX3_passAll_107 rfl ?_
  refine r_iaload 108 dX3_passAll_108 2 rfl (vp_lit (by decide)) (show Int32.toNatClampNeg 15 = 15 by decide) ?_
  refine r_callVD (ws2 := [_, _, _, _, _]) (wr := []) 109 s_X3_213 dX3_passAll_109 (m_pass0 (a := 39) (by decide)) rfl rfl 0 rfl rfl rfl [0, 1, 2, 3, 4] [] rfl rfl rfl rfl (by decide) jRm_ok (Nat.le_of_ble_eq_true rfl) ⟨(Nat.le_of_ble_eq_true rfl), (Nat.le_of_ble_eq_true rfl)⟩ [0, 1, 2, 3, 4] rfl rfl ?_
  refine r_ti (y := imV T 39) (hk 39 (by decide)) ?_
  refine r_iastore (ws2 := [_, _, (_, .inl (_, _, .inl _)), _, _]) 112 dX3_passAll_112 2 rfl (vp_lit (by decide)) (show Int32.toNatClampNeg 15 = 15 by decide) rfl ?_
  refine r_aload_n 113 dX3_passAll_113 rfl ?_
  refine r_get 114 f_X3_16 dX3_passAll_114 0 rfl rfl ?_
  refine r_iload_n 117 dX3_passAll_117 rfl ?_
  refine r_aload_n 118 dX3_passAll_118 rfl ?_
  refine r_aload_n 119 dX3_passAll_119 rfl ?_
  refine r_get 120 f_X3_16 dX3_passAll_120 0 rfl rfl ?_
  refine r_iload_n 123 dX3_passAll_123 rfl ?_
  refine r_iaload 124 dX3_passAll_124 3 rfl (vp_lit (by decide)) (show Int32.toNatClampNeg 15 = 15 by decide) ?_
  refine r_callVD (ws2 := [_, _, _, _, _]) (wr := []) 125 s_X3_213 dX3_passAll_125 (m_pass0 (a := 40) (by decide)) rfl rfl 0 rfl rfl rfl [0, 1, 2, 3, 4] [] rfl rfl rfl rfl (by decide) jRm_ok (Nat.le_of_ble_eq_true rfl) ⟨(Nat.le_of_ble_eq_true rfl), (Nat.le_of_ble_eq_true rfl)⟩ [0, 1, 2, 3, 4] rfl rfl ?_
  refine r_ti (y := imV T 40) (hk 40 (by decide)) ?_
  refine r_iastore (ws2 := [_, _, _, (_, .inl (_, _, .inl _)), _]) 128 dX3_passAll_128 3 rfl (vp_lit (by decide)) (show Int32.toNatClampNeg 15 = 15 by decide) rfl ?_
  refine r_iinc (v := 16) (lv2 := [_, _]) 129 dX3_passAll_129 rfl (by decide) (by decide) rfl rfl ?_
  refine r_goto 132 91 dX3_passAll_132 (by decide) ?_
  refine r_iload_n 91 dX3_passAll_91 rfl ?_
  refine r_bipush (v := 16) 92 dX3_passAll_92 (by decide) ?_
  refine r_icmp_geT 94 135 dX3_passAll_94 (by decide) (by decide) ?_
  refine r_arrI (f2 := fun f => mI (sE T f)) (ws2 := [_, (_, .inl (_, _, .inl _)), _, _, _]) 1 rfl (fun j hj => by
    rcases (show j = 0 ∨ j = 1 ∨ j = 2 ∨ j = 3 by omega) with rfl | rfl | rfl | rfl <;> rfl) rfl ?_
  refine r_arrI (f2 := fun p => fI (sF T p)) (ws2 := [_, _, (_, .inl (_, _, .inl _)), _, _]) 2 rfl (fun j hj => im_16 (fun p => fI (sF T p)) j hj) rfl ?_
  refine r_arrI (f2 := fun p => mI (sW T p)) (ws2 := [_, _, _, (_, .inl (_, _, .inl _)), _]) 3 rfl (fun j hj => im_16 (fun p => mI (sW T p)) j hj) rfl ?_
  exact r_ret 135 dX3_passAll_135 rfl (Nat.le_of_ble_eq_true rfl) (Nat.le_of_ble_eq_true rfl) (jdv rfl)
set_option maxRecDepth 100000 in
set_option maxHeartbeats 400000 in
theorem m_image0 {G : jG} {d : Nat} {m : Nat} {A : Nat → Nat} {S : qS} {pm se th ka iw : Int32} {kp : Nat → Int32} {ik : Nat → Int32} : Ct G yX3_image cX3_image 2 (some .int) (d + 3) 0 0 [.ref m, .int 0] (wX G m A (S) pm se th (ka) iw ++ [(A 12, .inl (G.2.2.1, 120, .inl (kp))), (A 13, .inl (G.2.2.2.2.2.1, 2, .inl (ik)))]) (jD (some (.int 1)) (wX G m A (S) pm se th (nI 41) 1 ++ [(A 12, .inl (G.2.2.1, 120, .inl (kpW S 0 kp 41))), (A 13, .inl (G.2.2.2.2.2.1, 2, .inl (upd ik 0 1)))])) := by
  refine ct_of (by decide) (Nat.le_of_ble_eq_true rfl) (own := RX3) (nm := "image") rfl rfl (lv := [some (.ref m), some (.int 0)]) rfl ?_
  refine r_iload_n 0 dX3_image_0 rfl ?_
  refine r_i2l 1 dX3_image_1 ?_
  refine r_lconst (v := 0) 2 dX3_image_2 (by decide) ?_
  refine r_lconst (v := 1) 3 dX3_image_3 (by decide) ?_
  refine r_sta (st2 := [.long (1 : Int32).toInt64, .long (0 : Int32).toInt64, .long (0 : Int32).toInt64]) rfl ?_
  refine r_callSD (ws2 := [_, _, _, _, _, _]) (wr := [_, _, _, _, _, _]) 4 s_X3_79 dX3_image_4 (m_in) rfl rfl [] [0, 1, 2, 3, 4, 5] rfl rfl rfl rfl (by decide) jRm_ok (Nat.le_of_ble_eq_true rfl) ⟨(Nat.le_of_ble_eq_true rfl), (Nat.le_of_ble_eq_true rfl)⟩ [0, 1, 2, 3, 4, 5] rfl rfl ?_
  refine r_if_neB 7 13 dX3_image_7 (by decide) (fun c_7 => ?_) (fun c_7 => ?_)
  · -- 7T
    refine r_aload_n 13 dX3_image_13 rfl ?_
    refine r_bipush (v := 60) 14 dX3_image_14 (by decide) ?_
    refine r_iload_n 16 dX3_image_16 rfl ?_
    refine r_imul 17 dX3_image_17 ?_
    refine r_ti (y := nI 0) (by decide) ?_
    refine r_put (ws2 := [(_, .inr (_, [_, _, _, _, _, _, _, _, _, _, _, _, _, _, _, _, _, _, _, _, _, _, _, _])), _, _, _, _, _]) 18 p_X3_210 dX3_image_18 0 rfl rfl rfl (Nat.le_of_ble_eq_true rfl) rfl ?_
    refine r_aload_n 21 dX3_image_21 rfl ?_
    refine r_iconst (v := 1) 22 dX3_image_22 (by decide) ?_
    refine r_put (ws2 := [(_, .inr (_, [_, _, _, _, _, _, _, _, _, _, _, _, _, _, _, _, _, _, _, _, _, _, _, _])), _, _, _, _, _]) 23 p_X3_206 dX3_image_23 0 rfl rfl rfl (Nat.le_of_ble_eq_true rfl) rfl ?_
    refine r_aload_n 26 dX3_image_26 rfl ?_
    refine r_callVD (ws2 := [_, _, _, _, _, _]) (wr := [_]) 27 s_X3_216 dX3_image_27 (m_passW0) rfl rfl 0 rfl rfl rfl [0, 1, 2, 3, 4] [5] rfl rfl rfl rfl (by decide) jRm_ok (Nat.le_of_ble_eq_true rfl) ⟨(Nat.le_of_ble_eq_true rfl), (Nat.le_of_ble_eq_true rfl)⟩ [1, 2, 3, 4, 5, 0] rfl rfl ?_
    refine r_aload_n 30 dX3_image_30 rfl ?_
    refine r_get 31 f_X3_51 dX3_image_31 0 rfl rfl ?_
    refine r_iload_n 34 dX3_image_34 rfl ?_
    refine r_iconst (v := 1) 35 dX3_image_35 (by decide) ?_
    refine r_bastore (ws2 := [_, _, _, _, _, (_, .inl (_, _, .inl _))]) 36 dX3_image_36 5 rfl (vp_lit (by decide)) (show Int32.toNatClampNeg 0 = 0 by decide) rfl ?_
    refine r_arrI (f2 := upd ik 0 1) (ws2 := [_, _, _, _, _, (_, .inl (_, _, .inl _))]) 5 rfl (fun j _ => rfl) rfl ?_
    refine r_iconst (v := 1) 37 dX3_image_37 (by decide) ?_
    exact r_iret 38 dX3_image_38 rfl rfl (Nat.le_of_ble_eq_true rfl) (Nat.le_of_ble_eq_true rfl) (jd rfl)
  · -- 7F
    exact absurd (by decide) c_7
set_option maxRecDepth 100000 in
set_option maxHeartbeats 400000 in
theorem m_restore0 {G : jG} {d : Nat} {m : Nat} {A : Nat → Nat} {S T : qS} {pm se th ka iw : Int32} {kp : Nat → Int32} {ik : Nat → Int32} (hik : ik 0 = 1) (hk : ∀ k, k < 41 → kp (0 + k) = imV T k) : Ct G yX3_restore cX3_restore 2 (some .int) (d + 3) 0 0 [.ref m, .int 0] (wX G m A (S) pm se th (ka) iw ++ [(A 12, .inl (G.2.2.1, 120, .inl (kp))), (A 13, .inl (G.2.2.2.2.2.1, 2, .inl (ik)))]) (jD (some (.int 1)) (wX G m A (T) pm se th (nI 41) 0 ++ [(A 12, .inl (G.2.2.1, 120, .inl (kp))), (A 13, .inl (G.2.2.2.2.2.1, 2, .inl (ik)))])) := by
  refine ct_of (by decide) (Nat.le_of_ble_eq_true rfl) (own := RX3) (nm := "restore") rfl rfl (lv := [some (.ref m), some (.int 0)]) rfl ?_
  refine r_iload_n 0 dX3_restore_0 rfl ?_
  refine r_i2l 1 dX3_restore_1 ?_
  refine r_lconst (v := 0) 2 dX3_restore_2 (by decide) ?_
  refine r_lconst (v := 1) 3 dX3_restore_3 (by decide) ?_
  refine r_sta (st2 := [.long (1 : Int32).toInt64, .long (0 : Int32).toInt64, .long (0 : Int32).toInt64]) rfl ?_
  refine r_callSD (ws2 := [_, _, _, _, _, _]) (wr := [_, _, _, _, _, _]) 4 s_X3_79 dX3_restore_4 (m_in) rfl rfl [] [0, 1, 2, 3, 4, 5] rfl rfl rfl rfl (by decide) jRm_ok (Nat.le_of_ble_eq_true rfl) ⟨(Nat.le_of_ble_eq_true rfl), (Nat.le_of_ble_eq_true rfl)⟩ [0, 1, 2, 3, 4, 5] rfl rfl ?_
  refine r_if_neB 7 13 dX3_restore_7 (by decide) (fun c_7 => ?_) (fun c_7 => ?_)
  · -- 7T
    refine r_aload_n 13 dX3_restore_13 rfl ?_
    refine r_get 14 f_X3_51 dX3_restore_14 0 rfl rfl ?_
    refine r_iload_n 17 dX3_restore_17 rfl ?_
    refine r_baload 18 dX3_restore_18 5 rfl (vp_lit (by decide)) (show Int32.toNatClampNeg 0 = 0 by decide) ?_
    refine r_ti (y := 1) (hik) ?_
    refine r_if_neT 19 25 dX3_restore_19 (by decide) (by decide) ?_
    refine r_aload_n 25 dX3_restore_25 rfl ?_
    refine r_bipush (v := 60) 26 dX3_restore_26 (by decide) ?_
    refine r_iload_n 28 dX3_restore_28 rfl ?_
    refine r_imul 29 dX3_restore_29 ?_
    refine r_ti (y := nI 0) (by decide) ?_
    refine r_put (ws2 := [(_, .inr (_, [_, _, _, _, _, _, _, _, _, _, _, _, _, _, _, _, _, _, _, _, _, _, _, _])), _, _, _, _, _]) 30 p_X3_210 dX3_restore_30 0 rfl rfl rfl (Nat.le_of_ble_eq_true rfl) rfl ?_
    refine r_aload_n 33 dX3_restore_33 rfl ?_
    refine r_iconst (v := 0) 34 dX3_restore_34 (by decide) ?_
    refine r_put (ws2 := [(_, .inr (_, [_, _, _, _, _, _, _, _, _, _, _, _, _, _, _, _, _, _, _, _, _, _, _, _])), _, _, _, _, _]) 35 p_X3_206 dX3_restore_35 0 rfl rfl rfl (Nat.le_of_ble_eq_true rfl) rfl ?_
    refine r_aload_n 38 dX3_restore_38 rfl ?_
    refine r_callVD (ws2 := [_, _, _, _, _, _]) (wr := [_]) 39 s_X3_216 dX3_restore_39 (m_passR0 (T := T) hk) rfl rfl 0 rfl rfl rfl [0, 1, 2, 3, 4] [5] rfl rfl rfl rfl (by decide) jRm_ok (Nat.le_of_ble_eq_true rfl) ⟨(Nat.le_of_ble_eq_true rfl), (Nat.le_of_ble_eq_true rfl)⟩ [1, 2, 3, 4, 5, 0] rfl rfl ?_
    refine r_iconst (v := 1) 42 dX3_restore_42 (by decide) ?_
    exact r_iret 43 dX3_restore_43 rfl rfl (Nat.le_of_ble_eq_true rfl) (Nat.le_of_ble_eq_true rfl) (jd rfl)
  · -- 7F
    exact absurd (by decide) c_7
set_option maxRecDepth 100000 in
set_option maxHeartbeats 400000 in
theorem m_restoreS0 {G : jG} {d : Nat} {m : Nat} {A : Nat → Nat} {S : qS} {pm se th ka iw : Int32} {kp : Nat → Int32} {ik : Nat → Int32} (hik : ik 0 = 0) : Ct G yX3_restore cX3_restore 2 (some .int) (d + 3) 0 0 [.ref m, .int 0] (wX G m A (S) pm se th (ka) iw ++ [(A 12, .inl (G.2.2.1, 120, .inl (kp))), (A 13, .inl (G.2.2.2.2.2.1, 2, .inl (ik)))]) (jD (some (.int (-3))) (wX G m A (S) pm se th (ka) iw ++ [(A 12, .inl (G.2.2.1, 120, .inl (kp))), (A 13, .inl (G.2.2.2.2.2.1, 2, .inl (ik)))])) := by
  refine ct_of (by decide) (Nat.le_of_ble_eq_true rfl) (own := RX3) (nm := "restore") rfl rfl (lv := [some (.ref m), some (.int 0)]) rfl ?_
  refine r_iload_n 0 dX3_restore_0 rfl ?_
  refine r_i2l 1 dX3_restore_1 ?_
  refine r_lconst (v := 0) 2 dX3_restore_2 (by decide) ?_
  refine r_lconst (v := 1) 3 dX3_restore_3 (by decide) ?_
  refine r_sta (st2 := [.long (1 : Int32).toInt64, .long (0 : Int32).toInt64, .long (0 : Int32).toInt64]) rfl ?_
  refine r_callSD (ws2 := [_, _, _, _, _, _]) (wr := [_, _, _, _, _, _]) 4 s_X3_79 dX3_restore_4 (m_in) rfl rfl [] [0, 1, 2, 3, 4, 5] rfl rfl rfl rfl (by decide) jRm_ok (Nat.le_of_ble_eq_true rfl) ⟨(Nat.le_of_ble_eq_true rfl), (Nat.le_of_ble_eq_true rfl)⟩ [0, 1, 2, 3, 4, 5] rfl rfl ?_
  refine r_if_neB 7 13 dX3_restore_7 (by decide) (fun c_7 => ?_) (fun c_7 => ?_)
  · -- 7T
    refine r_aload_n 13 dX3_restore_13 rfl ?_
    refine r_get 14 f_X3_51 dX3_restore_14 0 rfl rfl ?_
    refine r_iload_n 17 dX3_restore_17 rfl ?_
    refine r_baload 18 dX3_restore_18 5 rfl (vp_lit (by decide)) (show Int32.toNatClampNeg 0 = 0 by decide) ?_
    refine r_ti (y := 0) (hik) ?_
    refine r_if_neF 19 25 dX3_restore_19 (by decide) (by decide) ?_
    refine r_bipush (v := -3) 22 dX3_restore_22 (by decide) ?_
    exact r_iret 24 dX3_restore_24 rfl rfl (Nat.le_of_ble_eq_true rfl) (Nat.le_of_ble_eq_true rfl) (jd rfl)
  · -- 7F
    exact absurd (by decide) c_7
set_option maxRecDepth 100000 in
set_option maxHeartbeats 400000 in
theorem m_passW1 {G : jG} {d : Nat} {m : Nat} {A : Nat → Nat} {S : qS} {pm se th : Int32} {kp : Nat → Int32} : Ct G yX3_passAll cX3_passAll 2 none (d + 2) 0 0 [.ref m] (wX G m A (S) pm se th (nI 60) 1 ++ [(A 12, .inl (G.2.2.1, 120, .inl (kp)))]) (jD none (wX G m A (S) pm se th (nI 101) 1 ++ [(A 12, .inl (G.2.2.1, 120, .inl (kpW S 60 kp 41)))])) := by
  refine ct_of (by decide) (Nat.le_of_ble_eq_true rfl) (own := RX3) (nm := "passAll") rfl rfl (lv := [some (.ref m), none]) rfl ?_
  refine r_arrI (f2 := kpW S 60 kp 0) (ws2 := [_, _, _, _, (_, .inl (_, _, .inl _))]) 4 rfl (fun j _ => kpW_0 (S := S) (lo := 60) j) rfl ?_
  refine r_aload_n 0 dX3_passAll_0 rfl ?_
  refine r_aload_n 1 dX3_passAll_1 rfl ?_
  refine r_aload_n 2 dX3_passAll_2 rfl ?_
  refine r_get 3 f_X3_69 dX3_passAll_3 0 rfl rfl ?_
  refine r_callVD (ws2 := [_, _, _, _, _]) (wr := []) 6 s_X3_213 dX3_passAll_6 (m_pass1 (a := 60) (by decide)) rfl rfl 0 rfl rfl rfl [0, 1, 2, 3, 4] [] rfl rfl rfl rfl (by decide) jRm_ok (Nat.le_of_ble_eq_true rfl) ⟨(Nat.le_of_ble_eq_true rfl), (Nat.le_of_ble_eq_true rfl)⟩ [0, 1, 2, 3, 4] rfl rfl ?_
  refine r_arrI (f2 := kpW S 60 kp 1) (ws2 := [_, _, _, _, (_, .inl (_, _, .inl _))]) 4 rfl (fun j _ => kpW_s (lo := 60) (k := 0) rfl j) rfl ?_
  refine r_put (ws2 := [(_, .inr (_, [_, _, _, _, _, _, _, _, _, _, _, _, _, _, _, _, _, _, _, _, _, _, _, _])), _, _, _, _]) 9 p_X3_69 dX3_passAll_9 0 rfl rfl rfl (Nat.le_of_ble_eq_true rfl) rfl ?_
  refine r_aload_n 12 dX3_passAll_12 rfl ?_
  refine r_aload_n 13 dX3_passAll_13 rfl ?_
  refine r_aload_n 14 dX3_passAll_14 rfl ?_
  refine r_get 15 f_X3_72 dX3_passAll_15 0 rfl rfl ?_
  refine r_callVD (ws2 := [_, _, _, _, _]) (wr := []) 18 s_X3_213 dX3_passAll_18 (m_pass1 (a := 61) (by decide)) rfl rfl 0 rfl rfl rfl [0, 1, 2, 3, 4] [] rfl rfl rfl rfl (by decide) jRm_ok (Nat.le_of_ble_eq_true rfl) ⟨(Nat.le_of_ble_eq_true rfl), (Nat.le_of_ble_eq_true rfl)⟩ [0, 1, 2, 3, 4] rfl rfl ?_
  refine r_arrI (f2 := kpW S 60 kp 2) (ws2 := [_, _, _, _, (_, .inl (_, _, .inl _))]) 4 rfl (fun j _ => kpW_s (lo := 60) (k := 1) rfl j) rfl ?_
  refine r_put (ws2 := [(_, .inr (_, [_, _, _, _, _, _, _, _, _, _, _, _, _, _, _, _, _, _, _, _, _, _, _, _])), _, _, _, _]) 21 p_X3_72 dX3_passAll_21 0 rfl rfl rfl (Nat.le_of_ble_eq_true rfl) rfl ?_
  refine r_aload_n 24 dX3_passAll_24 rfl ?_
  refine r_aload_n 25 dX3_passAll_25 rfl ?_
  refine r_aload_n 26 dX3_passAll_26 rfl ?_
  refine r_get 27 f_X3_55 dX3_passAll_27 0 rfl rfl ?_
  refine r_callVD (ws2 := [_, _, _, _, _]) (wr := []) 30 s_X3_213 dX3_passAll_30 (m_pass1 (a := 62) (by decide)) rfl rfl 0 rfl rfl rfl [0, 1, 2, 3, 4] [] rfl rfl rfl rfl (by decide) jRm_ok (Nat.le_of_ble_eq_true rfl) ⟨(Nat.le_of_ble_eq_true rfl), (Nat.le_of_ble_eq_true rfl)⟩ [0, 1, 2, 3, 4] rfl rfl ?_
  refine r_arrI (f2 := kpW S 60 kp 3) (ws2 := [_, _, _, _, (_, .inl (_, _, .inl _))]) 4 rfl (fun j _ => kpW_s (lo := 60) (k := 2) rfl j) rfl ?_
  refine r_put (ws2 := [(_, .inr (_, [_, _, _, _, _, _, _, _, _, _, _, _, _, _, _, _, _, _, _, _, _, _, _, _])), _, _, _, _]) 33 p_X3_55 dX3_passAll_33 0 rfl rfl rfl (Nat.le_of_ble_eq_true rfl) rfl ?_
  refine r_aload_n 36 dX3_passAll_36 rfl ?_
  refine r_aload_n 37 dX3_passAll_37 rfl ?_
  refine r_aload_n 38 dX3_passAll_38 rfl ?_
  refine r_get 39 f_X3_59 dX3_passAll_39 0 rfl rfl ?_
  refine r_callVD (ws2 := [_, _, _, _, _]) (wr := []) 42 s_X3_213 dX3_passAll_42 (m_pass1 (a := 63) (by decide)) rfl rfl 0 rfl rfl rfl [0, 1, 2, 3, 4] [] rfl rfl rfl rfl (by decide) jRm_ok (Nat.le_of_ble_eq_true rfl) ⟨(Nat.le_of_ble_eq_true rfl), (Nat.le_of_ble_eq_true rfl)⟩ [0, 1, 2, 3, 4] rfl rfl ?_
  refine r_arrI (f2 := kpW S 60 kp 4) (ws2 := [_, _, _, _, (_, .inl (_, _, .inl _))]) 4 rfl (fun j _ => kpW_s (lo := 60) (k := 3) rfl j) rfl ?_
  refine r_put (ws2 := [(_, .inr (_, [_, _, _, _, _, _, _, _, _, _, _, _, _, _, _, _, _, _, _, _, _, _, _, _])), _, _, _, _]) 45 p_X3_59 dX3_passAll_45 0 rfl rfl rfl (Nat.le_of_ble_eq_true rfl) rfl ?_
  refine r_aload_n 48 dX3_passAll_48 rfl ?_
  refine r_aload_n 49 dX3_passAll_49 rfl ?_
  refine r_aload_n 50 dX3_passAll_50 rfl ?_
  refine r_get 51 f_X3_62 dX3_passAll_51 0 rfl rfl ?_
  refine r_callVD (ws2 := [_, _, _, _, _]) (wr := []) 54 s_X3_213 dX3_passAll_54 (m_pass1 (a := 64) (by decide)) rfl rfl 0 rfl rfl rfl [0, 1, 2, 3, 4] [] rfl rfl rfl rfl (by decide) jRm_ok (Nat.le_of_ble_eq_true rfl) ⟨(Nat.le_of_ble_eq_true rfl), (Nat.le_of_ble_eq_true rfl)⟩ [0, 1, 2, 3, 4] rfl rfl ?_
  refine r_arrI (f2 := kpW S 60 kp 5) (ws2 := [_, _, _, _, (_, .inl (_, _, .inl _))]) 4 rfl (fun j _ => kpW_s (lo := 60) (k := 4) rfl j) rfl ?_
  refine r_put (ws2 := [(_, .inr (_, [_, _, _, _, _, _, _, _, _, _, _, _, _, _, _, _, _, _, _, _, _, _, _, _])), _, _, _, _]) 57 p_X3_62 dX3_passAll_57 0 rfl rfl rfl (Nat.le_of_ble_eq_true rfl) rfl ?_
  refine r_iconst (v := 0) 60 dX3_passAll_60 (by decide) ?_
  refine r_istore_n (lv2 := [_, _]) 61 dX3_passAll_61 (by decide) rfl rfl ?_
  refine r_iload_n 62 dX3_passAll_62 rfl ?_
  refine r_iconst (v := 4) 63 dX3_passAll_63 (by decide) ?_
  refine r_icmp_geF 64 89 dX3_passAll_64 (by decide) (by decide) ?_
  refine r_aload_n 67 dX3_passAll_67 rfl ?_
  refine r_get 68 f_X3_7 dX3_passAll_68 0 rfl rfl ?_
  refine r_iload_n 71 dX3_passAll_71 rfl ?_
  refine r_aload_n 72 dX3_passAll_72 rfl ?_
  refine r_aload_n 73 dX3_passAll_73 rfl ?_
  refine r_get 74 f_X3_7 dX3_passAll_74 0 rfl rfl ?_
  refine r_iload_n 77 dX3_passAll_77 rfl ?_
  refine r_iaload 78 dX3_passAll_78 1 rfl (vp_lit (by decide)) (show Int32.toNatClampNeg 0 = 0 by decide) ?_
  refine r_callVD (ws2 := [_, _, _, _, _]) (wr := []) 79 s_X3_213 dX3_passAll_79 (m_pass1 (a := 65) (by decide)) rfl rfl 0 rfl rfl rfl [0, 1, 2, 3, 4] [] rfl rfl rfl rfl (by decide) jRm_ok (Nat.le_of_ble_eq_true rfl) ⟨(Nat.le_of_ble_eq_true rfl), (Nat.le_of_ble_eq_true rfl)⟩ [0, 1, 2, 3, 4] rfl rfl ?_
  refine r_arrI (f2 := kpW S 60 kp 6) (ws2 := [_, _, _, _, (_, .inl (_, _, .inl _))]) 4 rfl (fun j _ => kpW_s (lo := 60) (k := 5) rfl j) rfl ?_
  refine r_iastore (ws2 := [_, (_, .inl (_, _, .inl _)), _, _, _]) 82 dX3_passAll_82 1 rfl (vp_lit (by decide)) (show Int32.toNatClampNeg 0 = 0 by decide) rfl ?_
  refine r_arrI (f2 := fun f => mI (sE S f)) (ws2 := [_, (_, .inl (_, _, .inl _)), _, _, _]) 1 rfl (fun j _ => upd_id j) rfl ?_
  refine r_iinc (v := 1) (lv2 := [_, _]) 83 dX3_passAll_83 rfl (by decide) (by decide) rfl rfl ?_
  refine r_goto 86 62 dX3_passAll_86 (by decide) ?_
  refine r_iload_n 62 dX3_passAll_62 rfl ?_
  refine r_iconst (v := 4) 63 dX3_passAll_63 (by decide) ?_
  refine r_icmp_geF 64 89 dX3_passAll_64 (by decide) (by decide) ?_
  refine r_aload_n 67 dX3_passAll_67 rfl ?_
  refine r_get 68 f_X3_7 dX3_passAll_68 0 rfl rfl ?_
  refine r_iload_n 71 dX3_passAll_71 rfl ?_
  refine r_aload_n 72 dX3_passAll_72 rfl ?_
  refine r_aload_n 73 dX3_passAll_73 rfl ?_
  refine r_get 74 f_X3_7 dX3_passAll_74 0 rfl rfl ?_
  refine r_iload_n 77 dX3_passAll_77 rfl ?_
  refine r_iaload 78 dX3_passAll_78 1 rfl (vp_lit (by decide)) (show Int32.toNatClampNeg 1 = 1 by decide) ?_
  refine r_callVD (ws2 := [_, _, _, _, _]) (wr := []) 79 s_X3_213 dX3_passAll_79 (m_pass1 (a := 66) (by decide)) rfl rfl 0 rfl rfl rfl [0, 1, 2, 3, 4] [] rfl rfl rfl rfl (by decide) jRm_ok (Nat.le_of_ble_eq_true rfl) ⟨(Nat.le_of_ble_eq_true rfl), (Nat.le_of_ble_eq_true rfl)⟩ [0, 1, 2, 3, 4] rfl rfl ?_
  refine r_arrI (f2 := kpW S 60 kp 7) (ws2 := [_, _, _, _, (_, .inl (_, _, .inl _))]) 4 rfl (fun j _ => kpW_s (lo := 60) (k := 6) rfl j) rfl ?_
  refine r_iastore (ws2 := [_, (_, .inl (_, _, .inl _)), _, _, _]) 82 dX3_passAll_82 1 rfl (vp_lit (by decide)) (show Int32.toNatClampNeg 1 = 1 by decide) rfl ?_
  refine r_arrI (f2 := fun f => mI (sE S f)) (ws2 := [_, (_, .inl (_, _, .inl _)), _, _, _]) 1 rfl (fun j _ => upd_id j) rfl ?_
  refine r_iinc (v := 2) (lv2 := [_, _]) 83 dX3_passAll_83 rfl (by decide) (by decide) rfl rfl ?_
  refine r_goto 86 62 dX3_passAll_86 (by decide) ?_
  refine r_iload_n 62 dX3_passAll_62 rfl ?_
  refine r_iconst (v := 4) 63 dX3_passAll_63 (by decide) ?_
  refine r_icmp_geF 64 89 dX3_passAll_64 (by decide) (by decide) ?_
  refine r_aload_n 67 dX3_passAll_67 rfl ?_
  refine r_get 68 f_X3_7 dX3_passAll_68 0 rfl rfl ?_
  refine r_iload_n 71 dX3_passAll_71 rfl ?_
  refine r_aload_n 72 dX3_passAll_72 rfl ?_
  refine r_aload_n 73 dX3_passAll_73 rfl ?_
  refine r_get 74 f_X3_7 dX3_passAll_74 0 rfl rfl ?_
  refine r_iload_n 77 dX3_passAll_77 rfl ?_
  refine r_iaload 78 dX3_passAll_78 1 rfl (vp_lit (by decide)) (show Int32.toNatClampNeg 2 = 2 by decide) ?_
  refine r_callVD (ws2 := [_, _, _, _, _]) (wr := []) 79 s_X3_213 dX3_passAll_79 (m_pass1 (a := 67) (by decide)) rfl rfl 0 rfl rfl rfl [0, 1, 2, 3, 4] [] rfl rfl rfl rfl (by decide) jRm_ok (Nat.le_of_ble_eq_true rfl) ⟨(Nat.le_of_ble_eq_true rfl), (Nat.le_of_ble_eq_true rfl)⟩ [0, 1, 2, 3, 4] rfl rfl ?_
  refine r_arrI (f2 := kpW S 60 kp 8) (ws2 := [_, _, _, _, (_, .inl (_, _, .inl _))]) 4 rfl (fun j _ => kpW_s (lo := 60) (k := 7) rfl j) rfl ?_
  refine r_iastore (ws2 := [_, (_, .inl (_, _, .inl _)), _, _, _]) 82 dX3_passAll_82 1 rfl (vp_lit (by decide)) (show Int32.toNatClampNeg 2 = 2 by decide) rfl ?_
  refine r_arrI (f2 := fun f => mI (sE S f)) (ws2 := [_, (_, .inl (_, _, .inl _)), _, _, _]) 1 rfl (fun j _ => upd_id j) rfl ?_
  refine r_iinc (v := 3) (lv2 := [_, _]) 83 dX3_passAll_83 rfl (by decide) (by decide) rfl rfl ?_
  refine r_goto 86 62 dX3_passAll_86 (by decide) ?_
  refine r_iload_n 62 dX3_passAll_62 rfl ?_
  refine r_iconst (v := 4) 63 dX3_passAll_63 (by decide) ?_
  refine r_icmp_geF 64 89 dX3_passAll_64 (by decide) (by decide) ?_
  refine r_aload_n 67 dX3_passAll_67 rfl ?_
  refine r_get 68 f_X3_7 dX3_passAll_68 0 rfl rfl ?_
  refine r_iload_n 71 dX3_passAll_71 rfl ?_
  refine r_aload_n 72 dX3_passAll_72 rfl ?_
  refine r_aload_n 73 dX3_passAll_73 rfl ?_
  refine r_get 74 f_X3_7 dX3_passAll_74 0 rfl rfl ?_
  refine r_iload_n 77 dX3_passAll_77 rfl ?_
  refine r_iaload 78 dX3_passAll_78 1 rfl (vp_lit (by decide)) (show Int32.toNatClampNeg 3 = 3 by decide) ?_
  refine r_callVD (ws2 := [_, _, _, _, _]) (wr := []) 79 s_X3_213 dX3_passAll_79 (m_pass1 (a := 68) (by decide)) rfl rfl 0 rfl rfl rfl [0, 1, 2, 3, 4] [] rfl rfl rfl rfl (by decide) jRm_ok (Nat.le_of_ble_eq_true rfl) ⟨(Nat.le_of_ble_eq_true rfl), (Nat.le_of_ble_eq_true rfl)⟩ [0, 1, 2, 3, 4] rfl rfl ?_
  refine r_arrI (f2 := kpW S 60 kp 9) (ws2 := [_, _, _, _, (_, .inl (_, _, .inl _))]) 4 rfl (fun j _ => kpW_s (lo := 60) (k := 8) rfl j) rfl ?_
  refine r_iastore (ws2 := [_, (_, .inl (_, _, .inl _)), _, _, _]) 82 dX3_passAll_82 1 rfl (vp_lit (by decide)) (show Int32.toNatClampNeg 3 = 3 by decide) rfl ?_
  refine r_arrI (f2 := fun f => mI (sE S f)) (ws2 := [_, (_, .inl (_, _, .inl _)), _, _, _]) 1 rfl (fun j _ => upd_id j) rfl ?_
  refine r_iinc (v := 4) (lv2 := [_, _]) 83 dX3_passAll_83 rfl (by decide) (by decide) rfl rfl ?_
  refine r_goto 86 62 dX3_passAll_86 (by decide) ?_
  refine r_iload_n 62 dX3_passAll_62 rfl ?_
  refine r_iconst (v := 4) 63 dX3_passAll_63 (by decide) ?_
  refine r_icmp_geT 64 89 dX3_passAll_64 (by decide) (by decide) ?_
  refine r_iconst (v := 0) 89 dX3_passAll_89 (by decide) ?_
  refine r_istore_n (lv2 := [_, _]) 90 dX3_passAll_90 (by decide) rfl rfl ?_
  refine r_iload_n 91 dX3_passAll_91 rfl ?_
  refine r_bipush (v := 16) 92 dX3_passAll_92 (by decide) ?_
  refine r_icmp_geF 94 135 dX3_passAll_94 (by decide) (by decide) ?_
  refine r_aload_n 97 dX3_passAll_97 rfl ?_
  refine r_get 98 f_X3_13 dX3_passAll_98 0 rfl rfl ?_
  refine r_iload_n 101 dX3_passAll_101 rfl ?_
  refine r_aload_n 102 dX3_passAll_102 rfl ?_
  refine r_aload_n 103 dX3_passAll_103 rfl ?_
  refine r_get 104 f_X3_13 dX3_passAll_104 0 rfl rfl ?_
  refine r_iload_n 107 dX3_passAll_107 rfl ?_
  refine r_iaload 108 dX3_passAll_108 2 rfl (vp_lit (by decide)) (show Int32.toNatClampNeg 0 = 0 by decide) ?_
  refine r_callVD (ws2 := [_, _, _, _, _]) (wr := []) 109 s_X3_213 dX3_passAll_109 (m_pass1 (a := 69) (by decide)) rfl rfl 0 rfl rfl rfl [0, 1, 2, 3, 4] [] rfl rfl rfl rfl (by decide) jRm_ok (Nat.le_of_ble_eq_true rfl) ⟨(Nat.le_of_ble_eq_true rfl), (Nat.le_of_ble_eq_true rfl)⟩ [0, 1, 2, 3, 4] rfl rfl ?_
  refine r_arrI (f2 := kpW S 60 kp 10) (ws2 := [_, _, _, _, (_, .inl (_, _, .inl _))]) 4 rfl (fun j _ => kpW_s (lo := 60) (k := 9) rfl j) rfl ?_
  refine r_iastore (ws2 := [_, _, (_, .inl (_, _, .inl _)), _, _]) 112 dX3_passAll_112 2 rfl (vp_lit (by decide)) (show Int32.toNatClampNeg 0 = 0 by decide) rfl ?_
  refine r_arrI (f2 := fun p => fI (sF S p)) (ws2 := [_, _, (_, .inl (_, _, .inl _)), _, _]) 2 rfl (fun j _ => upd_id j) rfl ?_
  refine r_aload_n 113 dX3_passAll_113 rfl ?_
  refine r_get 114 f_X3_16 dX3_passAll_114 0 rfl rfl ?_
  refine r_iload_n 117 dX3_passAll_117 rfl ?_
  refine r_aload_n 118 dX3_passAll_118 rfl ?_
  refine r_aload_n 119 dX3_passAll_119 rfl ?_
  refine r_get 120 f_X3_16 dX3_passAll_120 0 rfl rfl ?_
  refine r_iload_n 123 dX3_passAll_123 rfl ?_
  refine r_iaload 124 dX3_passAll_124 3 rfl (vp_lit (by decide)) (show Int32.toNatClampNeg 0 = 0 by decide) ?_
  refine r_callVD (ws2 := [_, _, _, _, _]) (wr := []) 125 s_X3_213 dX3_passAll_125 (m_pass1 (a := 70) (by decide)) rfl rfl 0 rfl rfl rfl [0, 1, 2, 3, 4] [] rfl rfl rfl rfl (by decide) jRm_ok (Nat.le_of_ble_eq_true rfl) ⟨(Nat.le_of_ble_eq_true rfl), (Nat.le_of_ble_eq_true rfl)⟩ [0, 1, 2, 3, 4] rfl rfl ?_
  refine r_arrI (f2 := kpW S 60 kp 11) (ws2 := [_, _, _, _, (_, .inl (_, _, .inl _))]) 4 rfl (fun j _ => kpW_s (lo := 60) (k := 10) rfl j) rfl ?_
  refine r_iastore (ws2 := [_, _, _, (_, .inl (_, _, .inl _)), _]) 128 dX3_passAll_128 3 rfl (vp_lit (by decide)) (show Int32.toNatClampNeg 0 = 0 by decide) rfl ?_
  refine r_arrI (f2 := fun p => mI (sW S p)) (ws2 := [_, _, _, (_, .inl (_, _, .inl _)), _]) 3 rfl (fun j _ => upd_id j) rfl ?_
  refine r_iinc (v := 1) (lv2 := [_, _]) 129 dX3_passAll_129 rfl (by decide) (by decide) rfl rfl ?_
  refine r_goto 132 91 dX3_passAll_132 (by decide) ?_
  refine r_iload_n 91 dX3_passAll_91 rfl ?_
  refine r_bipush (v := 16) 92 dX3_passAll_92 (by decide) ?_
  refine r_icmp_geF 94 135 dX3_passAll_94 (by decide) (by decide) ?_
  refine r_aload_n 97 dX3_passAll_97 rfl ?_
  refine r_get 98 f_X3_13 dX3_passAll_98 0 rfl rfl ?_
  refine r_iload_n 101 dX3_passAll_101 rfl ?_
  refine r_aload_n 102 dX3_passAll_102 rfl ?_
  refine r_aload_n 103 dX3_passAll_103 rfl ?_
  refine r_get 104 f_X3_13 dX3_passAll_104 0 rfl rfl ?_
  refine r_iload_n 107 dX3_passAll_107 rfl ?_
  refine r_iaload 108 dX3_passAll_108 2 rfl (vp_lit (by decide)) (show Int32.toNatClampNeg 1 = 1 by decide) ?_
  refine r_callVD (ws2 := [_, _, _, _, _]) (wr := []) 109 s_X3_213 dX3_passAll_109 (m_pass1 (a := 71) (by decide)) rfl rfl 0 rfl rfl rfl [0, 1, 2, 3, 4] [] rfl rfl rfl rfl (by decide) jRm_ok (Nat.le_of_ble_eq_true rfl) ⟨(Nat.le_of_ble_eq_true rfl), (Nat.le_of_ble_eq_true rfl)⟩ [0, 1, 2, 3, 4] rfl rfl ?_
  refine r_arrI (f2 := kpW S 60 kp 12) (ws2 := [_, _, _, _, (_, .inl (_, _, .inl _))]) 4 rfl (fun j _ => kpW_s (lo := 60) (k := 11) rfl j) rfl ?_
  refine r_iastore (ws2 := [_, _, (_, .inl (_, _, .inl _)), _, _]) 112 dX3_passAll_112 2 rfl (vp_lit (by decide)) (show Int32.toNatClampNeg 1 = 1 by decide) rfl ?_
  refine r_arrI (f2 := fun p => fI (sF S p)) (ws2 := [_, _, (_, .inl (_, _, .inl _)), _, _]) 2 rfl (fun j _ => upd_id j) rfl ?_
  refine r_aload_n 113 dX3_passAll_113 rfl ?_
  refine r_get 114 f_X3_16 dX3_passAll_114 0 rfl rfl ?_
  refine r_iload_n 117 dX3_passAll_117 rfl ?_
  refine r_aload_n 118 dX3_passAll_118 rfl ?_
  refine r_aload_n 119 dX3_passAll_119 rfl ?_
  refine r_get 120 f_X3_16 dX3_passAll_120 0 rfl rfl ?_
  refine r_iload_n 123 dX3_passAll_123 rfl ?_
  refine r_iaload 124 dX3_passAll_124 3 rfl (vp_lit (by decide)) (show Int32.toNatClampNeg 1 = 1 by decide) ?_
  refine r_callVD (ws2 := [_, _, _, _, _]) (wr := []) 125 s_X3_213 dX3_passAll_125 (m_pass1 (a := 72) (by decide)) rfl rfl 0 rfl rfl rfl [0, 1, 2, 3, 4] [] rfl rfl rfl rfl (by decide) jRm_ok (Nat.le_of_ble_eq_true rfl) ⟨(Nat.le_of_ble_eq_true rfl), (Nat.le_of_ble_eq_true rfl)⟩ [0, 1, 2, 3, 4] rfl rfl ?_
  refine r_arrI (f2 := kpW S 60 kp 13) (ws2 := [_, _, _, _, (_, .inl (_, _, .inl _))]) 4 rfl (fun j _ => kpW_s (lo := 60) (k := 12) rfl j) rfl ?_
  refine r_iastore (ws2 := [_, _, _, (_, .inl (_, _, .inl _)), _]) 128 dX3_passAll_128 3 rfl (vp_lit (by decide)) (show Int32.toNatClampNeg 1 = 1 by decide) rfl ?_
  refine r_arrI (f2 := fun p => mI (sW S p)) (ws2 := [_, _, _, (_, .inl (_, _, .inl _)), _]) 3 rfl (fun j _ => upd_id j) rfl ?_
  refine r_iinc (v := 2) (lv2 := [_, _]) 129 dX3_passAll_129 rfl (by decide) (by decide) rfl rfl ?_
  refine r_goto 132 91 dX3_passAll_132 (by decide) ?_
  refine r_iload_n 91 dX3_passAll_91 rfl ?_
  refine r_bipush (v := 16) 92 dX3_passAll_92 (by decide) ?_
  refine r_icmp_geF 94 135 dX3_passAll_94 (by decide) (by decide) ?_
  refine r_aload_n 97 dX3_passAll_97 rfl ?_
  refine r_get 98 f_X3_13 dX3_passAll_98 0 rfl rfl ?_
  refine r_iload_n 101 dX3_passAll_101 rfl ?_
  refine r_aload_n 102 dX3_passAll_102 rfl ?_
  refine r_aload_n 103 dX3_passAll_103 rfl ?_
  refine r_get 104 f_X3_13 dX3_passAll_104 0 rfl rfl ?_
  refine r_iload_n 107 dX3_passAll_107 rfl ?_
  refine r_iaload 108 dX3_passAll_108 2 rfl (vp_lit (by decide)) (show Int32.toNatClampNeg 2 = 2 by decide) ?_
  refine r_callVD (ws2 := [_, _, _, _, _]) (wr := []) 109 s_X3_213 dX3_passAll_109 (m_pass1 (a := 73) (by decide)) rfl rfl 0 rfl rfl rfl [0, 1, 2, 3, 4] [] rfl rfl rfl rfl (by decide) jRm_ok (Nat.le_of_ble_eq_true rfl) ⟨(Nat.le_of_ble_eq_true rfl), (Nat.le_of_ble_eq_true rfl)⟩ [0, 1, 2, 3, 4] rfl rfl ?_
  refine r_arrI (f2 := kpW S 60 kp 14) (ws2 := [_, _, _, _, (_, .inl (_, _, .inl _))]) 4 rfl (fun j _ => kpW_s (lo := 60) (k := 13) rfl j) rfl ?_
  refine r_iastore (ws2 := [_, _, (_, .inl (_, _, .inl _)), _, _]) 112 dX3_passAll_112 2 rfl (vp_lit (by decide)) (show Int32.toNatClampNeg 2 = 2 by decide) rfl ?_
  refine r_arrI (f2 := fun p => fI (sF S p)) (ws2 := [_, _, (_, .inl (_, _, .inl _)), _, _]) 2 rfl (fun j _ => upd_id j) rfl ?_
  refine r_aload_n 113 dX3_passAll_113 rfl ?_
  refine r_get 114 f_X3_16 dX3_passAll_114 0 rfl rfl ?_
  refine r_iload_n 117 dX3_passAll_117 rfl ?_
  refine r_aload_n 118 dX3_passAll_118 rfl ?_
  refine r_aload_n 119 dX3_passAll_119 rfl ?_
  refine r_get 120 f_X3_16 dX3_passAll_120 0 rfl rfl ?_
  refine r_iload_n 123 dX3_passAll_123 rfl ?_
  refine r_iaload 124 dX3_passAll_124 3 rfl (vp_lit (by decide)) (show Int32.toNatClampNeg 2 = 2 by decide) ?_
  refine r_callVD (ws2 := [_, _, _, _, _]) (wr := []) 125 s_X3_213 dX3_passAll_125 (m_pass1 (a := 74) (by decide)) rfl rfl 0 rfl rfl rfl [0, 1, 2, 3, 4] [] rfl rfl rfl rfl (by decide) jRm_ok (Nat.le_of_ble_eq_true rfl) ⟨(Nat.le_of_ble_eq_true rfl), (Nat.le_of_ble_eq_true rfl)⟩ [0, 1, 2, 3, 4] rfl rfl ?_
  refine r_arrI (f2 := kpW S 60 kp 15) (ws2 := [_, _, _, _, (_, .inl (_, _, .inl _))]) 4 rfl (fun j _ => kpW_s (lo := 60) (k := 14) rfl j) rfl ?_
  refine r_iastore (ws2 := [_, _, _, (_, .inl (_, _, .inl _)), _]) 128 dX3_passAll_128 3 rfl (vp_lit (by decide)) (show Int32.toNatClampNeg 2 = 2 by decide) rfl ?_
  refine r_arrI (f2 := fun p => mI (sW S p)) (ws2 := [_, _, _, (_, .inl (_, _, .inl _)), _]) 3 rfl (fun j _ => upd_id j) rfl ?_
  refine r_iinc (v := 3) (lv2 := [_, _]) 129 dX3_passAll_129 rfl (by decide) (by decide) rfl rfl ?_
  refine r_goto 132 91 dX3_passAll_132 (by decide) ?_
  refine r_iload_n 91 dX3_passAll_91 rfl ?_
  refine r_bipush (v := 16) 92 dX3_passAll_92 (by decide) ?_
  refine r_icmp_geF 94 135 dX3_passAll_94 (by decide) (by decide) ?_
  refine r_aload_n 97 dX3_passAll_97 rfl ?_
  refine r_get 98 f_X3_13 dX3_passAll_98 0 rfl rfl ?_
  refine r_iload_n 101 dX3_passAll_101 rfl ?_
  refine r_aload_n 102 dX3_passAll_102 rfl ?_
  refine r_aload_n 103 dX3_passAll_103 rfl ?_
  refine r_get 104 f_X3_13 dX3_passAll_104 0 rfl rfl ?_
  refine r_iload_n 107 dX3_passAll_107 rfl ?_
  refine r_iaload 108 dX3_passAll_108 2 rfl (vp_lit (by decide)) (show Int32.toNatClampNeg 3 = 3 by decide) ?_
  refine r_callVD (ws2 := [_, _, _, _, _]) (wr := []) 109 s_X3_213 dX3_passAll_109 (m_pass1 (a := 75) (by decide)) rfl rfl 0 rfl rfl rfl [0, 1, 2, 3, 4] [] rfl rfl rfl rfl (by decide) jRm_ok (Nat.le_of_ble_eq_true rfl) ⟨(Nat.le_of_ble_eq_true rfl), (Nat.le_of_ble_eq_true rfl)⟩ [0, 1, 2, 3, 4] rfl rfl ?_
  refine r_arrI (f2 := kpW S 60 kp 16) (ws2 := [_, _, _, _, (_, .inl (_, _, .inl _))]) 4 rfl (fun j _ => kpW_s (lo := 60) (k := 15) rfl j) rfl ?_
  refine r_iastore (ws2 := [_, _, (_, .inl (_, _, .inl _)), _, _]) 112 dX3_passAll_112 2 rfl (vp_lit (by decide)) (show Int32.toNatClampNeg 3 = 3 by decide) rfl ?_
  refine r_arrI (f2 := fun p => fI (sF S p)) (ws2 := [_, _, (_, .inl (_, _, .inl _)), _, _]) 2 rfl (fun j _ => upd_id j) rfl ?_
  refine r_aload_n 113 dX3_passAll_113 rfl ?_
  refine r_get 114 f_X3_16 dX3_passAll_114 0 rfl rfl ?_
  refine r_iload_n 117 dX3_passAll_117 rfl ?_
  refine r_aload_n 118 dX3_passAll_118 rfl ?_
  refine r_aload_n 119 dX3_passAll_119 rfl ?_
  refine r_get 120 f_X3_16 dX3_passAll_120 0 rfl rfl ?_
  refine r_iload_n 123 dX3_passAll_123 rfl ?_
  refine r_iaload 124 dX3_passAll_124 3 rfl (vp_lit (by decide)) (show Int32.toNatClampNeg 3 = 3 by decide) ?_
  refine r_callVD (ws2 := [_, _, _, _, _]) (wr := []) 125 s_X3_213 dX3_passAll_125 (m_pass1 (a := 76) (by decide)) rfl rfl 0 rfl rfl rfl [0, 1, 2, 3, 4] [] rfl rfl rfl rfl (by decide) jRm_ok (Nat.le_of_ble_eq_true rfl) ⟨(Nat.le_of_ble_eq_true rfl), (Nat.le_of_ble_eq_true rfl)⟩ [0, 1, 2, 3, 4] rfl rfl ?_
  refine r_arrI (f2 := kpW S 60 kp 17) (ws2 := [_, _, _, _, (_, .inl (_, _, .inl _))]) 4 rfl (fun j _ => kpW_s (lo := 60) (k := 16) rfl j) rfl ?_
  refine r_iastore (ws2 := [_, _, _, (_, .inl (_, _, .inl _)), _]) 128 dX3_passAll_128 3 rfl (vp_lit (by decide)) (show Int32.toNatClampNeg 3 = 3 by decide) rfl ?_
  refine r_arrI (f2 := fun p => mI (sW S p)) (ws2 := [_, _, _, (_, .inl (_, _, .inl _)), _]) 3 rfl (fun j _ => upd_id j) rfl ?_
  refine r_iinc (v := 4) (lv2 := [_, _]) 129 dX3_passAll_129 rfl (by decide) (by decide) rfl rfl ?_
  refine r_goto 132 91 dX3_passAll_132 (by decide) ?_
  refine r_iload_n 91 dX3_passAll_91 rfl ?_
  refine r_bipush (v := 16) 92 dX3_passAll_92 (by decide) ?_
  refine r_icmp_geF 94 135 dX3_passAll_94 (by decide) (by decide) ?_
  refine r_aload_n 97 dX3_passAll_97 rfl ?_
  refine r_get 98 f_X3_13 dX3_passAll_98 0 rfl rfl ?_
  refine r_iload_n 101 dX3_passAll_101 rfl ?_
  refine r_aload_n 102 dX3_passAll_102 rfl ?_
  refine r_aload_n 103 dX3_passAll_103 rfl ?_
  refine r_get 104 f_X3_13 dX3_passAll_104 0 rfl rfl ?_
  refine r_iload_n 107 dX3_passAll_107 rfl ?_
  refine r_iaload 108 dX3_passAll_108 2 rfl (vp_lit (by decide)) (show Int32.toNatClampNeg 4 = 4 by decide) ?_
  refine r_callVD (ws2 := [_, _, _, _, _]) (wr := []) 109 s_X3_213 dX3_passAll_109 (m_pass1 (a := 77) (by decide)) rfl rfl 0 rfl rfl rfl [0, 1, 2, 3, 4] [] rfl rfl rfl rfl (by decide) jRm_ok (Nat.le_of_ble_eq_true rfl) ⟨(Nat.le_of_ble_eq_true rfl), (Nat.le_of_ble_eq_true rfl)⟩ [0, 1, 2, 3, 4] rfl rfl ?_
  refine r_arrI (f2 := kpW S 60 kp 18) (ws2 := [_, _, _, _, (_, .inl (_, _, .inl _))]) 4 rfl (fun j _ => kpW_s (lo := 60) (k := 17) rfl j) rfl ?_
  refine r_iastore (ws2 := [_, _, (_, .inl (_, _, .inl _)), _, _]) 112 dX3_passAll_112 2 rfl (vp_lit (by decide)) (show Int32.toNatClampNeg 4 = 4 by decide) rfl ?_
  refine r_arrI (f2 := fun p => fI (sF S p)) (ws2 := [_, _, (_, .inl (_, _, .inl _)), _, _]) 2 rfl (fun j _ => upd_id j) rfl ?_
  refine r_aload_n 113 dX3_passAll_113 rfl ?_
  refine r_get 114 f_X3_16 dX3_passAll_114 0 rfl rfl ?_
  refine r_iload_n 117 dX3_passAll_117 rfl ?_
  refine r_aload_n 118 dX3_passAll_118 rfl ?_
  refine r_aload_n 119 dX3_passAll_119 rfl ?_
  refine r_get 120 f_X3_16 dX3_passAll_120 0 rfl rfl ?_
  refine r_iload_n 123 dX3_passAll_123 rfl ?_
  refine r_iaload 124 dX3_passAll_124 3 rfl (vp_lit (by decide)) (show Int32.toNatClampNeg 4 = 4 by decide) ?_
  refine r_callVD (ws2 := [_, _, _, _, _]) (wr := []) 125 s_X3_213 dX3_passAll_125 (m_pass1 (a := 78) (by decide)) rfl rfl 0 rfl rfl rfl [0, 1, 2, 3, 4] [] rfl rfl rfl rfl (by decide) jRm_ok (Nat.le_of_ble_eq_true rfl) ⟨(Nat.le_of_ble_eq_true rfl), (Nat.le_of_ble_eq_true rfl)⟩ [0, 1, 2, 3, 4] rfl rfl ?_
  refine r_arrI (f2 := kpW S 60 kp 19) (ws2 := [_, _, _, _, (_, .inl (_, _, .inl _))]) 4 rfl (fun j _ => kpW_s (lo := 60) (k := 18) rfl j) rfl ?_
  refine r_iastore (ws2 := [_, _, _, (_, .inl (_, _, .inl _)), _]) 128 dX3_passAll_128 3 rfl (vp_lit (by decide)) (show Int32.toNatClampNeg 4 = 4 by decide) rfl ?_
  refine r_arrI (f2 := fun p => mI (sW S p)) (ws2 := [_, _, _, (_, .inl (_, _, .inl _)), _]) 3 rfl (fun j _ => upd_id j) rfl ?_
  refine r_iinc (v := 5) (lv2 := [_, _]) 129 dX3_passAll_129 rfl (by decide) (by decide) rfl rfl ?_
  refine r_goto 132 91 dX3_passAll_132 (by decide) ?_
  refine r_iload_n 91 dX3_passAll_91 rfl ?_
  refine r_bipush (v := 16) 92 dX3_passAll_92 (by decide) ?_
  refine r_icmp_geF 94 135 dX3_passAll_94 (by decide) (by decide) ?_
  refine r_aload_n 97 dX3_passAll_97 rfl ?_
  refine r_get 98 f_X3_13 dX3_passAll_98 0 rfl rfl ?_
  refine r_iload_n 101 dX3_passAll_101 rfl ?_
  refine r_aload_n 102 dX3_passAll_102 rfl ?_
  refine r_aload_n 103 dX3_passAll_103 rfl ?_
  refine r_get 104 f_X3_13 dX3_passAll_104 0 rfl rfl ?_
  refine r_iload_n 107 dX3_passAll_107 rfl ?_
  refine r_iaload 108 dX3_passAll_108 2 rfl (vp_lit (by decide)) (show Int32.toNatClampNeg 5 = 5 by decide) ?_
  refine r_callVD (ws2 := [_, _, _, _, _]) (wr := []) 109 s_X3_213 dX3_passAll_109 (m_pass1 (a := 79) (by decide)) rfl rfl 0 rfl rfl rfl [0, 1, 2, 3, 4] [] rfl rfl rfl rfl (by decide) jRm_ok (Nat.le_of_ble_eq_true rfl) ⟨(Nat.le_of_ble_eq_true rfl), (Nat.le_of_ble_eq_true rfl)⟩ [0, 1, 2, 3, 4] rfl rfl ?_
  refine r_arrI (f2 := kpW S 60 kp 20) (ws2 := [_, _, _, _, (_, .inl (_, _, .inl _))]) 4 rfl (fun j _ => kpW_s (lo := 60) (k := 19) rfl j) rfl ?_
  refine r_iastore (ws2 := [_, _, (_, .inl (_, _, .inl _)), _, _]) 112 dX3_passAll_112 2 rfl (vp_lit (by decide)) (show Int32.toNatClampNeg 5 = 5 by decide) rfl ?_
  refine r_arrI (f2 := fun p => fI (sF S p)) (ws2 := [_, _, (_, .inl (_, _, .inl _)), _, _]) 2 rfl (fun j _ => upd_id j) rfl ?_
  refine r_aload_n 113 dX3_passAll_113 rfl ?_
  refine r_get 114 f_X3_16 dX3_passAll_114 0 rfl rfl ?_
  refine r_iload_n 117 dX3_passAll_117 rfl ?_
  refine r_aload_n 118 dX3_passAll_118 rfl ?_
  refine r_aload_n 119 dX3_passAll_119 rfl ?_
  refine r_get 120 f_X3_16 dX3_passAll_120 0 rfl rfl ?_
  refine r_iload_n 123 dX3_passAll_123 rfl ?_
  refine r_iaload 124 dX3_passAll_124 3 rfl (vp_lit (by decide)) (show Int32.toNatClampNeg 5 = 5 by decide) ?_
  refine r_callVD (ws2 := [_, _, _, _, _]) (wr := []) 125 s_X3_213 dX3_passAll_125 (m_pass1 (a := 80) (by decide)) rfl rfl 0 rfl rfl rfl [0, 1, 2, 3, 4] [] rfl rfl rfl rfl (by decide) jRm_ok (Nat.le_of_ble_eq_true rfl) ⟨(Nat.le_of_ble_eq_true rfl), (Nat.le_of_ble_eq_true rfl)⟩ [0, 1, 2, 3, 4] rfl rfl ?_
  refine r_arrI (f2 := kpW S 60 kp 21) (ws2 := [_, _, _, _, (_, .inl (_, _, .inl _))]) 4 rfl (fun j _ => kpW_s (lo := 60) (k := 20) rfl j) rfl ?_
  refine r_iastore (ws2 := [_, _, _, (_, .inl (_, _, .inl _)), _]) 128 dX3_passAll_128 3 rfl (vp_lit (by decide)) (show Int32.toNatClampNeg 5 = 5 by decide) rfl ?_
  refine r_arrI (f2 := fun p => mI (sW S p)) (ws2 := [_, _, _, (_, .inl (_, _, .inl _)), _]) 3 rfl (fun j _ => upd_id j) rfl ?_
  refine r_iinc (v := 6) (lv2 := [_, _]) 129 dX3_passAll_129 rfl (by decide) (by decide) rfl rfl ?_
  refine r_goto 132 91 dX3_passAll_132 (by decide) ?_
  refine r_iload_n 91 dX3_passAll_91 rfl ?_
  refine r_bipush (v := 16) 92 dX3_passAll_92 (by decide) ?_
  refine r_icmp_geF 94 135 dX3_passAll_94 (by decide) (by decide) ?_
  refine r_aload_n 97 dX3_passAll_97 rfl ?_
  refine r_get 98 f_X3_13 dX3_passAll_98 0 rfl rfl ?_
  refine r_iload_n 101 dX3_passAll_101 rfl ?_
  refine r_aload_n 102 dX3_passAll_102 rfl ?_
  refine r_aload_n 103 dX3_passAll_103 rfl ?_
  refine r_get 104 f_X3_13 dX3_passAll_104 0 rfl rfl ?_
  refine r_iload_n 107 dX3_passAll_107 rfl ?_
  refine r_iaload 108 dX3_passAll_108 2 rfl (vp_lit (by decide)) (show Int32.toNatClampNeg 6 = 6 by decide) ?_
  refine r_callVD (ws2 := [_, _, _, _, _]) (wr := []) 109 s_X3_213 dX3_passAll_109 (m_pass1 (a := 81) (by decide)) rfl rfl 0 rfl rfl rfl [0, 1, 2, 3, 4] [] rfl rfl rfl rfl (by decide) jRm_ok (Nat.le_of_ble_eq_true rfl) ⟨(Nat.le_of_ble_eq_true rfl), (Nat.le_of_ble_eq_true rfl)⟩ [0, 1, 2, 3, 4] rfl rfl ?_
  refine r_arrI (f2 := kpW S 60 kp 22) (ws2 := [_, _, _, _, (_, .inl (_, _, .inl _))]) 4 rfl (fun j _ => kpW_s (lo := 60) (k := 21) rfl j) rfl ?_
  refine r_iastore (ws2 := [_, _, (_, .inl (_, _, .inl _)), _, _]) 112 dX3_passAll_112 2 rfl (vp_lit (by decide)) (show Int32.toNatClampNeg 6 = 6 by decide) rfl ?_
  refine r_arrI (f2 := fun p => fI (sF S p)) (ws2 := [_, _, (_, .inl (_, _, .inl _)), _, _]) 2 rfl (fun j _ => upd_id j) rfl ?_
  refine r_aload_n 113 dX3_passAll_113 rfl ?_
  refine r_get 114 f_X3_16 dX3_passAll_114 0 rfl rfl ?_
  refine r_iload_n 117 dX3_passAll_117 rfl ?_
  refine r_aload_n 118 dX3_passAll_118 rfl ?_
  refine r_aload_n 119 dX3_passAll_119 rfl ?_
  refine r_get 120 f_X3_16 dX3_passAll_120 0 rfl rfl ?_
  refine r_iload_n 123 dX3_passAll_123 rfl ?_
  refine r_iaload 124 dX3_passAll_124 3 rfl (vp_lit (by decide)) (show Int32.toNatClampNeg 6 = 6 by decide) ?_
  refine r_callVD (ws2 := [_, _, _, _, _]) (wr := []) 125 s_X3_213 dX3_passAll_125 (m_pass1 (a := 82) (by decide)) rfl rfl 0 rfl rfl rfl [0, 1, 2, 3, 4] [] rfl rfl rfl rfl (by decide) jRm_ok (Nat.le_of_ble_eq_true rfl) ⟨(Nat.le_of_ble_eq_true rfl), (Nat.le_of_ble_eq_true rfl)⟩ [0, 1, 2, 3, 4] rfl rfl ?_
  refine r_arrI (f2 := kpW S 60 kp 23) (ws2 := [_, _, _, _, (_, .inl (_, _, .inl _))]) 4 rfl (fun j _ => kpW_s (lo := 60) (k := 22) rfl j) rfl ?_
  refine r_iastore (ws2 := [_, _, _, (_, .inl (_, _, .inl _)), _]) 128 dX3_passAll_128 3 rfl (vp_lit (by decide)) (show Int32.toNatClampNeg 6 = 6 by decide) rfl ?_
  refine r_arrI (f2 := fun p => mI (sW S p)) (ws2 := [_, _, _, (_, .inl (_, _, .inl _)), _]) 3 rfl (fun j _ => upd_id j) rfl ?_
  refine r_iinc (v := 7) (lv2 := [_, _]) 129 dX3_passAll_129 rfl (by decide) (by decide) rfl rfl ?_
  refine r_goto 132 91 dX3_passAll_132 (by decide) ?_
  refine r_iload_n 91 dX3_passAll_91 rfl ?_
  refine r_bipush (v := 16) 92 dX3_passAll_92 (by decide) ?_
  refine r_icmp_geF 94 135 dX3_passAll_94 (by decide) (by decide) ?_
  refine r_aload_n 97 dX3_passAll_97 rfl ?_
  refine r_get 98 f_X3_13 dX3_passAll_98 0 rfl rfl ?_
  refine r_iload_n 101 dX3_passAll_101 rfl ?_
  refine r_aload_n 102 dX3_passAll_102 rfl ?_
  refine r_aload_n 103 dX3_passAll_103 rfl ?_
  refine r_get 104 f_X3_13 dX3_passAll_104 0 rfl rfl ?_
  refine r_iload_n 107 dX3_passAll_107 rfl ?_
  refine r_iaload 108 dX3_passAll_108 2 rfl (vp_lit (by decide)) (show Int32.toNatClampNeg 7 = 7 by decide) ?_
  refine r_callVD (ws2 := [_, _, _, _, _]) (wr := []) 109 s_X3_213 dX3_passAll_109 (m_pass1 (a := 83) (by decide)) rfl rfl 0 rfl rfl rfl [0, 1, 2, 3, 4] [] rfl rfl rfl rfl (by decide) jRm_ok (Nat.le_of_ble_eq_true rfl) ⟨(Nat.le_of_ble_eq_true rfl), (Nat.le_of_ble_eq_true rfl)⟩ [0, 1, 2, 3, 4] rfl rfl ?_
  refine r_arrI (f2 := kpW S 60 kp 24) (ws2 := [_, _, _, _, (_, .inl (_, _, .inl _))]) 4 rfl (fun j _ => kpW_s (lo := 60) (k := 23) rfl j) rfl ?_
  refine r_iastore (ws2 := [_, _, (_, .inl (_, _, .inl _)), _, _]) 112 dX3_passAll_112 2 rfl (vp_lit (by decide)) (show Int32.toNatClampNeg 7 = 7 by decide) rfl ?_
  refine r_arrI (f2 := fun p => fI (sF S p)) (ws2 := [_, _, (_, .inl (_, _, .inl _)), _, _]) 2 rfl (fun j _ => upd_id j) rfl ?_
  refine r_aload_n 113 dX3_passAll_113 rfl ?_
  refine r_get 114 f_X3_16 dX3_passAll_114 0 rfl rfl ?_
  refine r_iload_n 117 dX3_passAll_117 rfl ?_
  refine r_aload_n 118 dX3_passAll_118 rfl ?_
  refine r_aload_n 119 dX3_passAll_119 rfl ?_
  refine r_get 120 f_X3_16 dX3_passAll_120 0 rfl rfl ?_
  refine r_iload_n 123 dX3_passAll_123 rfl ?_
  refine r_iaload 124 dX3_passAll_124 3 rfl (vp_lit (by decide)) (show Int32.toNatClampNeg 7 = 7 by decide) ?_
  refine r_callVD (ws2 := [_, _, _, _, _]) (wr := []) 125 s_X3_213 dX3_passAll_125 (m_pass1 (a := 84) (by decide)) rfl rfl 0 rfl rfl rfl [0, 1, 2, 3, 4] [] rfl rfl rfl rfl (by decide) jRm_ok (Nat.le_of_ble_eq_true rfl) ⟨(Nat.le_of_ble_eq_true rfl), (Nat.le_of_ble_eq_true rfl)⟩ [0, 1, 2, 3, 4] rfl rfl ?_
  refine r_arrI (f2 := kpW S 60 kp 25) (ws2 := [_, _, _, _, (_, .inl (_, _, .inl _))]) 4 rfl (fun j _ => kpW_s (lo := 60) (k := 24) rfl j) rfl ?_
  refine r_iastore (ws2 := [_, _, _, (_, .inl (_, _, .inl _)), _]) 128 dX3_passAll_128 3 rfl (vp_lit (by decide)) (show Int32.toNatClampNeg 7 = 7 by decide) rfl ?_
  refine r_arrI (f2 := fun p => mI (sW S p)) (ws2 := [_, _, _, (_, .inl (_, _, .inl _)), _]) 3 rfl (fun j _ => upd_id j) rfl ?_
  refine r_iinc (v := 8) (lv2 := [_, _]) 129 dX3_passAll_129 rfl (by decide) (by decide) rfl rfl ?_
  refine r_goto 132 91 dX3_passAll_132 (by decide) ?_
  refine r_iload_n 91 dX3_passAll_91 rfl ?_
  refine r_bipush (v := 16) 92 dX3_passAll_92 (by decide) ?_
  refine r_icmp_geF 94 135 dX3_passAll_94 (by decide) (by decide) ?_
  refine r_aload_n 97 dX3_passAll_97 rfl ?_
  refine r_get 98 f_X3_13 dX3_passAll_98 0 rfl rfl ?_
  refine r_iload_n 101 dX3_passAll_101 rfl ?_
  refine r_aload_n 102 dX3_passAll_102 rfl ?_
  refine r_aload_n 103 dX3_passAll_103 rfl ?_
  refine r_get 104 f_X3_13 dX3_passAll_104 0 rfl rfl ?_
  refine r_iload_n 107 dX3_passAll_107 rfl ?_
  refine r_iaload 108 dX3_passAll_108 2 rfl (vp_lit (by decide)) (show Int32.toNatClampNeg 8 = 8 by decide) ?_
  refine r_callVD (ws2 := [_, _, _, _, _]) (wr := []) 109 s_X3_213 dX3_passAll_109 (m_pass1 (a := 85) (by decide)) rfl rfl 0 rfl rfl rfl [0, 1, 2, 3, 4] [] rfl rfl rfl rfl (by decide) jRm_ok (Nat.le_of_ble_eq_true rfl) ⟨(Nat.le_of_ble_eq_true rfl), (Nat.le_of_ble_eq_true rfl)⟩ [0, 1, 2, 3, 4] rfl rfl ?_
  refine r_arrI (f2 := kpW S 60 kp 26) (ws2 := [_, _, _, _, (_, .inl (_, _, .inl _))]) 4 rfl (fun j _ => kpW_s (lo := 60) (k := 25) rfl j) rfl ?_
  refine r_iastore (ws2 := [_, _, (_, .inl (_, _, .inl _)), _, _]) 112 dX3_passAll_112 2 rfl (vp_lit (by decide)) (show Int32.toNatClampNeg 8 = 8 by decide) rfl ?_
  refine r_arrI (f2 := fun p => fI (sF S p)) (ws2 := [_, _, (_, .inl (_, _, .inl _)), _, _]) 2 rfl (fun j _ => upd_id j) rfl ?_
  refine r_aload_n 113 dX3_passAll_113 rfl ?_
  refine r_get 114 f_X3_16 dX3_passAll_114 0 rfl rfl ?_
  refine r_iload_n 117 dX3_passAll_117 rfl ?_
  refine r_aload_n 118 dX3_passAll_118 rfl ?_
  refine r_aload_n 119 dX3_passAll_119 rfl ?_
  refine r_get 120 f_X3_16 dX3_passAll_120 0 rfl rfl ?_
  refine r_iload_n 123 dX3_passAll_123 rfl ?_
  refine r_iaload 124 dX3_passAll_124 3 rfl (vp_lit (by decide)) (show Int32.toNatClampNeg 8 = 8 by decide) ?_
  refine r_callVD (ws2 := [_, _, _, _, _]) (wr := []) 125 s_X3_213 dX3_passAll_125 (m_pass1 (a := 86) (by decide)) rfl rfl 0 rfl rfl rfl [0, 1, 2, 3, 4] [] rfl rfl rfl rfl (by decide) jRm_ok (Nat.le_of_ble_eq_true rfl) ⟨(Nat.le_of_ble_eq_true rfl), (Nat.le_of_ble_eq_true rfl)⟩ [0, 1, 2, 3, 4] rfl rfl ?_
  refine r_arrI (f2 := kpW S 60 kp 27) (ws2 := [_, _, _, _, (_, .inl (_, _, .inl _))]) 4 rfl (fun j _ => kpW_s (lo := 60) (k := 26) rfl j) rfl ?_
  refine r_iastore (ws2 := [_, _, _, (_, .inl (_, _, .inl _)), _]) 128 dX3_passAll_128 3 rfl (vp_lit (by decide)) (show Int32.toNatClampNeg 8 = 8 by decide) rfl ?_
  refine r_arrI (f2 := fun p => mI (sW S p)) (ws2 := [_, _, _, (_, .inl (_, _, .inl _)), _]) 3 rfl (fun j _ => upd_id j) rfl ?_
  refine r_iinc (v := 9) (lv2 := [_, _]) 129 dX3_passAll_129 rfl (by decide) (by decide) rfl rfl ?_
  refine r_goto 132 91 dX3_passAll_132 (by decide) ?_
  refine r_iload_n 91 dX3_passAll_91 rfl ?_
  refine r_bipush (v := 16) 92 dX3_passAll_92 (by decide) ?_
  refine r_icmp_geF 94 135 dX3_passAll_94 (by decide) (by decide) ?_
  refine r_aload_n 97 dX3_passAll_97 rfl ?_
  refine r_get 98 f_X3_13 dX3_passAll_98 0 rfl rfl ?_
  refine r_iload_n 101 dX3_passAll_101 rfl ?_
  refine r_aload_n 102 dX3_passAll_102 rfl ?_
  refine r_aload_n 103 dX3_passAll_103 rfl ?_
  refine r_get 104 f_X3_13 dX3_passAll_104 0 rfl rfl ?_
  refine r_iload_n 107 dX3_passAll_107 rfl ?_
  refine r_iaload 108 dX3_passAll_108 2 rfl (vp_lit (by decide)) (show Int32.toNatClampNeg 9 = 9 by decide) ?_
  refine r_callVD (ws2 := [_, _, _, _, _]) (wr := []) 109 s_X3_213 dX3_passAll_109 (m_pass1 (a := 87) (by decide)) rfl rfl 0 rfl rfl rfl [0, 1, 2, 3, 4] [] rfl rfl rfl rfl (by decide) jRm_ok (Nat.le_of_ble_eq_true rfl) ⟨(Nat.le_of_ble_eq_true rfl), (Nat.le_of_ble_eq_true rfl)⟩ [0, 1, 2, 3, 4] rfl rfl ?_
  refine r_arrI (f2 := kpW S 60 kp 28) (ws2 := [_, _, _, _, (_, .inl (_, _, .inl _))]) 4 rfl (fun j _ => kpW_s (lo := 60) (k := 27) rfl j) rfl ?_
  refine r_iastore (ws2 := [_, _, (_, .inl (_, _, .inl _)), _, _]) 112 dX3_passAll_112 2 rfl (vp_lit (by decide)) (show Int32.toNatClampNeg 9 = 9 by decide) rfl ?_
  refine r_arrI (f2 := fun p => fI (sF S p)) (ws2 := [_, _, (_, .inl (_, _, .inl _)), _, _]) 2 rfl (fun j _ => upd_id j) rfl ?_
  refine r_aload_n 113 dX3_passAll_113 rfl ?_
  refine r_get 114 f_X3_16 dX3_passAll_114 0 rfl rfl ?_
  refine r_iload_n 117 dX3_passAll_117 rfl ?_
  refine r_aload_n 118 dX3_passAll_118 rfl ?_
  refine r_aload_n 119 dX3_passAll_119 rfl ?_
  refine r_get 120 f_X3_16 dX3_passAll_120 0 rfl rfl ?_
  refine r_iload_n 123 dX3_passAll_123 rfl ?_
  refine r_iaload 124 dX3_passAll_124 3 rfl (vp_lit (by decide)) (show Int32.toNatClampNeg 9 = 9 by decide) ?_
  refine r_callVD (ws2 := [_, _, _, _, _]) (wr := []) 125 s_X3_213 dX3_passAll_125 (m_pass1 (a := 88) (by decide)) rfl rfl 0 rfl rfl rfl [0, 1, 2, 3, 4] [] rfl rfl rfl rfl (by decide) jRm_ok (Nat.le_of_ble_eq_true rfl) ⟨(Nat.le_of_ble_eq_true rfl), (Nat.le_of_ble_eq_true rfl)⟩ [0, 1, 2, 3, 4] rfl rfl ?_
  refine r_arrI (f2 := kpW S 60 kp 29) (ws2 := [_, _, _, _, (_, .inl (_, _, .inl _))]) 4 rfl (fun j _ => kpW_s (lo := 60) (k := 28) rfl j) rfl ?_
  refine r_iastore (ws2 := [_, _, _, (_, .inl (_, _, .inl _)), _]) 128 dX3_passAll_128 3 rfl (vp_lit (by decide)) (show Int32.toNatClampNeg 9 = 9 by decide) rfl ?_
  refine r_arrI (f2 := fun p => mI (sW S p)) (ws2 := [_, _, _, (_, .inl (_, _, .inl _)), _]) 3 rfl (fun j _ => upd_id j) rfl ?_
  refine r_iinc (v := 10) (lv2 := [_, _]) 129 dX3_passAll_129 rfl (by decide) (by decide) rfl rfl ?_
  refine r_goto 132 91 dX3_passAll_132 (by decide) ?_
  refine r_iload_n 91 dX3_passAll_91 rfl ?_
  refine r_bipush (v := 16) 92 dX3_passAll_92 (by decide) ?_
  refine r_icmp_geF 94 135 dX3_passAll_94 (by decide) (by decide) ?_
  refine r_aload_n 97 dX3_passAll_97 rfl ?_
  refine r_get 98 f_X3_13 dX3_passAll_98 0 rfl rfl ?_
  refine r_iload_n 101 dX3_passAll_101 rfl ?_
  refine r_aload_n 102 dX3_passAll_102 rfl ?_
  refine r_aload_n 103 dX3_passAll_103 rfl ?_
  refine r_get 104 f_X3_13 dX3_passAll_104 0 rfl rfl ?_
  refine r_iload_n 107 dX3_passAll_107 rfl ?_
  refine r_iaload 108 dX3_passAll_108 2 rfl (vp_lit (by decide)) (show Int32.toNatClampNeg 10 = 10 by decide) ?_
  refine r_callVD (ws2 := [_, _, _, _, _]) (wr := []) 109 s_X3_213 dX3_passAll_109 (m_pass1 (a := 89) (by decide)) rfl rfl 0 rfl rfl rfl [0, 1, 2, 3, 4] [] rfl rfl rfl rfl (by decide) jRm_ok (Nat.le_of_ble_eq_true rfl) ⟨(Nat.le_of_ble_eq_true rfl), (Nat.le_of_ble_eq_true rfl)⟩ [0, 1, 2, 3, 4] rfl rfl ?_
  refine r_arrI (f2 := kpW S 60 kp 30) (ws2 := [_, _, _, _, (_, .inl (_, _, .inl _))]) 4 rfl (fun j _ => kpW_s (lo := 60) (k := 29) rfl j) rfl ?_
  refine r_iastore (ws2 := [_, _, (_, .inl (_, _, .inl _)), _, _]) 112 dX3_passAll_112 2 rfl (vp_lit (by decide)) (show Int32.toNatClampNeg 10 = 10 by decide) rfl ?_
  refine r_arrI (f2 := fun p => fI (sF S p)) (ws2 := [_, _, (_, .inl (_, _, .inl _)), _, _]) 2 rfl (fun j _ => upd_id j) rfl ?_
  refine r_aload_n 113 dX3_passAll_113 rfl ?_
  refine r_get 114 f_X3_16 dX3_passAll_114 0 rfl rfl ?_
  refine r_iload_n 117 dX3_passAll_117 rfl ?_
  refine r_aload_n 118 dX3_passAll_118 rfl ?_
  refine r_aload_n 119 dX3_passAll_119 rfl ?_
  refine r_get 120 f_X3_16 dX3_passAll_120 0 rfl rfl ?_
  refine r_iload_n 123 dX3_passAll_123 rfl ?_
  refine r_iaload 124 dX3_passAll_124 3 rfl (vp_lit (by decide)) (show Int32.toNatClampNeg 10 = 10 by decide) ?_
  refine r_callVD (ws2 := [_, _, _, _, _]) (wr := []) 125 s_X3_213 dX3_passAll_125 (m_pass1 (a := 90) (by decide)) rfl rfl 0 rfl rfl rfl [0, 1, 2, 3, 4] [] rfl rfl rfl rfl (by decide) jRm_ok (Nat.le_of_ble_eq_true rfl) ⟨(Nat.le_of_ble_eq_true rfl), (Nat.le_of_ble_eq_true rfl)⟩ [0, 1, 2, 3, 4] rfl rfl ?_
  refine r_arrI (f2 := kpW S 60 kp 31) (ws2 := [_, _, _, _, (_, .inl (_, _, .inl _))]) 4 rfl (fun j _ => kpW_s (lo := 60) (k := 30) rfl j) rfl ?_
  refine r_iastore (ws2 := [_, _, _, (_, .inl (_, _, .inl _)), _]) 128 dX3_passAll_128 3 rfl (vp_lit (by decide)) (show Int32.toNatClampNeg 10 = 10 by decide) rfl ?_
  refine r_arrI (f2 := fun p => mI (sW S p)) (ws2 := [_, _, _, (_, .inl (_, _, .inl _)), _]) 3 rfl (fun j _ => upd_id j) rfl ?_
  refine r_iinc (v := 11) (lv2 := [_, _]) 129 dX3_passAll_129 rfl (by decide) (by decide) rfl rfl ?_
  refine r_goto 132 91 dX3_passAll_132 (by decide) ?_
  refine r_iload_n 91 dX3_passAll_91 rfl ?_
  refine r_bipush (v := 16) 92 dX3_passAll_92 (by decide) ?_
  refine r_icmp_geF 94 135 dX3_passAll_94 (by decide) (by decide) ?_
  refine r_aload_n 97 dX3_passAll_97 rfl ?_
  refine r_get 98 f_X3_13 dX3_passAll_98 0 rfl rfl ?_
  refine r_iload_n 101 dX3_passAll_101 rfl ?_
  refine r_aload_n 102 dX3_passAll_102 rfl ?_
  refine r_aload_n 103 dX3_passAll_103 rfl ?_
  refine r_get 104 f_X3_13 dX3_passAll_104 0 rfl rfl ?_
  refine r_iload_n 107 dX3_passAll_107 rfl ?_
  refine r_iaload 108 dX3_passAll_108 2 rfl (vp_lit (by decide)) (show Int32.toNatClampNeg 11 = 11 by decide) ?_
  refine r_callVD (ws2 := [_, _, _, _, _]) (wr := []) 109 s_X3_213 dX3_passAll_109 (m_pass1 (a := 91) (by decide)) rfl rfl 0 rfl rfl rfl [0, 1, 2, 3, 4] [] rfl rfl rfl rfl (by decide) jRm_ok (Nat.le_of_ble_eq_true rfl) ⟨(Nat.le_of_ble_eq_true rfl), (Nat.le_of_ble_eq_true rfl)⟩ [0, 1, 2, 3, 4] rfl rfl ?_
  refine r_arrI (f2 := kpW S 60 kp 32) (ws2 := [_, _, _, _, (_, .inl (_, _, .inl _))]) 4 rfl (fun j _ => kpW_s (lo := 60) (k := 31) rfl j) rfl ?_
  refine r_iastore (ws2 := [_, _, (_, .inl (_, _, .inl _)), _, _]) 112 dX3_passAll_112 2 rfl (vp_lit (by decide)) (show Int32.toNatClampNeg 11 = 11 by decide) rfl ?_
  refine r_arrI (f2 := fun p => fI (sF S p)) (ws2 := [_, _, (_, .inl (_, _, .inl _)), _, _]) 2 rfl (fun j _ => upd_id j) rfl ?_
  refine r_aload_n 113 dX3_passAll_113 rfl ?_
  refine r_get 114 f_X3_16 dX3_passAll_114 0 rfl rfl ?_
  refine r_iload_n 117 dX3_passAll_117 rfl ?_
  refine r_aload_n 118 dX3_passAll_118 rfl ?_
  refine r_aload_n 119 dX3_passAll_119 rfl ?_
  refine r_get 120 f_X3_16 dX3_passAll_120 0 rfl rfl ?_
  refine r_iload_n 123 dX3_passAll_123 rfl ?_
  refine r_iaload 124 dX3_passAll_124 3 rfl (vp_lit (by decide)) (show Int32.toNatClampNeg 11 = 11 by decide) ?_
  refine r_callVD (ws2 := [_, _, _, _, _]) (wr := []) 125 s_X3_213 dX3_passAll_125 (m_pass1 (a := 92) (by decide)) rfl rfl 0 rfl rfl rfl [0, 1, 2, 3, 4] [] rfl rfl rfl rfl (by decide) jRm_ok (Nat.le_of_ble_eq_true rfl) ⟨(Nat.le_of_ble_eq_true rfl), (Nat.le_of_ble_eq_true rfl)⟩ [0, 1, 2, 3, 4] rfl rfl ?_
  refine r_arrI (f2 := kpW S 60 kp 33) (ws2 := [_, _, _, _, (_, .inl (_, _, .inl _))]) 4 rfl (fun j _ => kpW_s (lo := 60) (k := 32) rfl j) rfl ?_
  refine r_iastore (ws2 := [_, _, _, (_, .inl (_, _, .inl _)), _]) 128 dX3_passAll_128 3 rfl (vp_lit (by decide)) (show Int32.toNatClampNeg 11 = 11 by decide) rfl ?_
  refine r_arrI (f2 := fun p => mI (sW S p)) (ws2 := [_, _, _, (_, .inl (_, _, .inl _)), _]) 3 rfl (fun j _ => upd_id j) rfl ?_
  refine r_iinc (v := 12) (lv2 := [_, _]) 129 dX3_passAll_129 rfl (by decide) (by decide) rfl rfl ?_
  refine r_goto 132 91 dX3_passAll_132 (by decide) ?_
  refine r_iload_n 91 dX3_passAll_91 rfl ?_
  refine r_bipush (v := 16) 92 dX3_passAll_92 (by decide) ?_
  refine r_icmp_geF 94 135 dX3_passAll_94 (by decide) (by decide) ?_
  refine r_aload_n 97 dX3_passAll_97 rfl ?_
  refine r_get 98 f_X3_13 dX3_passAll_98 0 rfl rfl ?_
  refine r_iload_n 101 dX3_passAll_101 rfl ?_
  refine r_aload_n 102 dX3_passAll_102 rfl ?_
  refine r_aload_n 103 dX3_passAll_103 rfl ?_
  refine r_get 104 f_X3_13 dX3_passAll_104 0 rfl rfl ?_
  refine r_iload_n 107 dX3_passAll_107 rfl ?_
  refine r_iaload 108 dX3_passAll_108 2 rfl (vp_lit (by decide)) (show Int32.toNatClampNeg 12 = 12 by decide) ?_
  refine r_callVD (ws2 := [_, _, _, _, _]) (wr := []) 109 s_X3_213 dX3_passAll_109 (m_pass1 (a := 93) (by decide)) rfl rfl 0 rfl rfl rfl [0, 1, 2, 3, 4] [] rfl rfl rfl rfl (by decide) jRm_ok (Nat.le_of_ble_eq_true rfl) ⟨(Nat.le_of_ble_eq_true rfl), (Nat.le_of_ble_eq_true rfl)⟩ [0, 1, 2, 3, 4] rfl rfl ?_
  refine r_arrI (f2 := kpW S 60 kp 34) (ws2 := [_, _, _, _, (_, .inl (_, _, .inl _))]) 4 rfl (fun j _ => kpW_s (lo := 60) (k := 33) rfl j) rfl ?_
  refine r_iastore (ws2 := [_, _, (_, .inl (_, _, .inl _)), _, _]) 112 dX3_passAll_112 2 rfl (vp_lit (by decide)) (show Int32.toNatClampNeg 12 = 12 by decide) rfl ?_
  refine r_arrI (f2 := fun p => fI (sF S p)) (ws2 := [_, _, (_, .inl (_, _, .inl _)), _, _]) 2 rfl (fun j _ => upd_id j) rfl ?_
  refine r_aload_n 113 dX3_passAll_113 rfl ?_
  refine r_get 114 f_X3_16 dX3_passAll_114 0 rfl rfl ?_
  refine r_iload_n 117 dX3_passAll_117 rfl ?_
  refine r_aload_n 118 dX3_passAll_118 rfl ?_
  refine r_aload_n 119 dX3_passAll_119 rfl ?_
  refine r_get 120 f_X3_16 dX3_passAll_120 0 rfl rfl ?_
  refine r_iload_n 123 dX3_passAll_123 rfl ?_
  refine r_iaload 124 dX3_passAll_124 3 rfl (vp_lit (by decide)) (show Int32.toNatClampNeg 12 = 12 by decide) ?_
  refine r_callVD (ws2 := [_, _, _, _, _]) (wr := []) 125 s_X3_213 dX3_passAll_125 (m_pass1 (a := 94) (by decide)) rfl rfl 0 rfl rfl rfl [0, 1, 2, 3, 4] [] rfl rfl rfl rfl (by decide) jRm_ok (Nat.le_of_ble_eq_true rfl) ⟨(Nat.le_of_ble_eq_true rfl), (Nat.le_of_ble_eq_true rfl)⟩ [0, 1, 2, 3, 4] rfl rfl ?_
  refine r_arrI (f2 := kpW S 60 kp 35) (ws2 := [_, _, _, _, (_, .inl (_, _, .inl _))]) 4 rfl (fun j _ => kpW_s (lo := 60) (k := 34) rfl j) rfl ?_
  refine r_iastore (ws2 := [_, _, _, (_, .inl (_, _, .inl _)), _]) 128 dX3_passAll_128 3 rfl (vp_lit (by decide)) (show Int32.toNatClampNeg 12 = 12 by decide) rfl ?_
  refine r_arrI (f2 := fun p => mI (sW S p)) (ws2 := [_, _, _, (_, .inl (_, _, .inl _)), _]) 3 rfl (fun j _ => upd_id j) rfl ?_
  refine r_iinc (v := 13) (lv2 := [_, _]) 129 dX3_passAll_129 rfl (by decide) (by decide) rfl rfl ?_
  refine r_goto 132 91 dX3_passAll_132 (by decide) ?_
  refine r_iload_n 91 dX3_passAll_91 rfl ?_
  refine r_bipush (v := 16) 92 dX3_passAll_92 (by decide) ?_
  refine r_icmp_geF 94 135 dX3_passAll_94 (by decide) (by decide) ?_
  refine r_aload_n 97 dX3_passAll_97 rfl ?_
  refine r_get 98 f_X3_13 dX3_passAll_98 0 rfl rfl ?_
  refine r_iload_n 101 dX3_passAll_101 rfl ?_
  refine r_aload_n 102 dX3_passAll_102 rfl ?_
  refine r_aload_n 103 dX3_passAll_103 rfl ?_
  refine r_get 104 f_X3_13 dX3_passAll_104 0 rfl rfl ?_
  refine r_iload_n 107 dX3_passAll_107 rfl ?_
  refine r_iaload 108 dX3_passAll_108 2 rfl (vp_lit (by decide)) (show Int32.toNatClampNeg 13 = 13 by decide) ?_
  refine r_callVD (ws2 := [_, _, _, _, _]) (wr := []) 109 s_X3_213 dX3_passAll_109 (m_pass1 (a := 95) (by decide)) rfl rfl 0 rfl rfl rfl [0, 1, 2, 3, 4] [] rfl rfl rfl rfl (by decide) jRm_ok (Nat.le_of_ble_eq_true rfl) ⟨(Nat.le_of_ble_eq_true rfl), (Nat.le_of_ble_eq_true rfl)⟩ [0, 1, 2, 3, 4] rfl rfl ?_
  refine r_arrI (f2 := kpW S 60 kp 36) (ws2 := [_, _, _, _, (_, .inl (_, _, .inl _))]) 4 rfl (fun j _ => kpW_s (lo := 60) (k := 35) rfl j) rfl ?_
  refine r_iastore (ws2 := [_, _, (_, .inl (_, _, .inl _)), _, _]) 112 dX3_passAll_112 2 rfl (vp_lit (by decide)) (show Int32.toNatClampNeg 13 = 13 by decide) rfl ?_
  refine r_arrI (f2 := fun p => fI (sF S p)) (ws2 := [_, _, (_, .inl (_, _, .inl _)), _, _]) 2 rfl (fun j _ => upd_id j) rfl ?_
  refine r_aload_n 113 dX3_passAll_113 rfl ?_
  refine r_get 114 f_X3_16 dX3_passAll_114 0 rfl rfl ?_
  refine r_iload_n 117 dX3_passAll_117 rfl ?_
  refine r_aload_n 118 dX3_passAll_118 rfl ?_
  refine r_aload_n 119 dX3_passAll_119 rfl ?_
  refine r_get 120 f_X3_16 dX3_passAll_120 0 rfl rfl ?_
  refine r_iload_n 123 dX3_passAll_123 rfl ?_
  refine r_iaload 124 dX3_passAll_124 3 rfl (vp_lit (by decide)) (show Int32.toNatClampNeg 13 = 13 by decide) ?_
  refine r_callVD (ws2 := [_, _, _, _, _]) (wr := []) 125 s_X3_213 dX3_passAll_125 (m_pass1 (a := 96) (by decide)) rfl rfl 0 rfl rfl rfl [0, 1, 2, 3, 4] [] rfl rfl rfl rfl (by decide) jRm_ok (Nat.le_of_ble_eq_true rfl) ⟨(Nat.le_of_ble_eq_true rfl), (Nat.le_of_ble_eq_true rfl)⟩ [0, 1, 2, 3, 4] rfl rfl ?_
  refine r_arrI (f2 := kpW S 60 kp 37) (ws2 := [_, _, _, _, (_, .inl (_, _, .inl _))]) 4 rfl (fun j _ => kpW_s (lo := 60) (k := 36) rfl j) rfl ?_
  refine r_iastore (ws2 := [_, _, _, (_, .inl (_, _, .inl _)), _]) 128 dX3_passAll_128 3 rfl (vp_lit (by decide)) (show Int32.toNatClampNeg 13 = 13 by decide) rfl ?_
  refine r_arrI (f2 := fun p => mI (sW S p)) (ws2 := [_, _, _, (_, .inl (_, _, .inl _)), _]) 3 rfl (fun j _ => upd_id j) rfl ?_
  refine r_iinc (v := 14) (lv2 := [_, _]) 129 dX3_passAll_129 rfl (by decide) (by decide) rfl rfl ?_
  refine r_goto 132 91 dX3_passAll_132 (by decide) ?_
  refine r_iload_n 91 dX3_passAll_91 rfl ?_
  refine r_bipush (v := 16) 92 dX3_passAll_92 (by decide) ?_
  refine r_icmp_geF 94 135 dX3_passAll_94 (by decide) (by decide) ?_
  refine r_aload_n 97 dX3_passAll_97 rfl ?_
  refine r_get 98 f_X3_13 dX3_passAll_98 0 rfl rfl ?_
  refine r_iload_n 101 dX3_passAll_101 rfl ?_
  refine r_aload_n 102 dX3_passAll_102 rfl ?_
  refine r_aload_n 103 dX3_passAll_103 rfl ?_
  refine r_get 104 f_X3_13 dX3_passAll_104 0 rfl rfl ?_
  refine r_iload_n 107 dX3_passAll_107 rfl ?_
  refine r_iaload 108 dX3_passAll_108 2 rfl (vp_lit (by decide)) (show Int32.toNatClampNeg 14 = 14 by decide) ?_
  refine r_callVD (ws2 := [_, _, _, _, _]) (wr := []) 109 s_X3_213 dX3_passAll_109 (m_pass1 (a := 97) (by decide)) rfl rfl 0 rfl rfl rfl [0, 1, 2, 3, 4] [] rfl rfl rfl rfl (by decide) jRm_ok (Nat.le_of_ble_eq_true rfl) ⟨(Nat.le_of_ble_eq_true rfl), (Nat.le_of_ble_eq_true rfl)⟩ [0, 1, 2, 3, 4] rfl rfl ?_
  refine r_arrI (f2 := kpW S 60 kp 38) (ws2 := [_, _, _, _, (_, .inl (_, _, .inl _))]) 4 rfl (fun j _ => kpW_s (lo := 60) (k := 37) rfl j) rfl ?_
  refine r_iastore (ws2 := [_, _, (_, .inl (_, _, .inl _)), _, _]) 112 dX3_passAll_112 2 rfl (vp_lit (by decide)) (show Int32.toNatClampNeg 14 = 14 by decide) rfl ?_
  refine r_arrI (f2 := fun p => fI (sF S p)) (ws2 := [_, _, (_, .inl (_, _, .inl _)), _, _]) 2 rfl (fun j _ => upd_id j) rfl ?_
  refine r_aload_n 113 dX3_passAll_113 rfl ?_
  refine r_get 114 f_X3_16 dX3_passAll_114 0 rfl rfl ?_
  refine r_iload_n 117 dX3_passAll_117 rfl ?_
  refine r_aload_n 118 dX3_passAll_118 rfl ?_
  refine r_aload_n 119 dX3_passAll_119 rfl ?_
  refine r_get 120 f_X3_16 dX3_passAll_120 0 rfl rfl ?_
  refine r_iload_n 123 dX3_passAll_123 rfl ?_
  refine r_iaload 124 dX3_passAll_124 3 rfl (vp_lit (by decide)) (show Int32.toNatClampNeg 14 = 14 by decide) ?_
  refine r_callVD (ws2 := [_, _, _, _, _]) (wr := []) 125 s_X3_213 dX3_passAll_125 (m_pass1 (a := 98) (by decide)) rfl rfl 0 rfl rfl rfl [0, 1, 2, 3, 4] [] rfl rfl rfl rfl (by decide) jRm_ok (Nat.le_of_ble_eq_true rfl) ⟨(Nat.le_of_ble_eq_true rfl), (Nat.le_of_ble_eq_true rfl)⟩ [0, 1, 2, 3, 4] rfl rfl ?_
  refine r_arrI (f2 := kpW S 60 kp 39) (ws2 := [_, _, _, _, (_, .inl (_, _, .inl _))]) 4 rfl (fun j _ => kpW_s (lo := 60) (k := 38) rfl j) rfl ?_
  refine r_iastore (ws2 := [_, _, _, (_, .inl (_, _, .inl _)), _]) 128 dX3_passAll_128 3 rfl (vp_lit (by decide)) (show Int32.toNatClampNeg 14 = 14 by decide) rfl ?_
  refine r_arrI (f2 := fun p => mI (sW S p)) (ws2 := [_, _, _, (_, .inl (_, _, .inl _)), _]) 3 rfl (fun j _ => upd_id j) rfl ?_
  refine r_iinc (v := 15) (lv2 := [_, _]) 129 dX3_passAll_129 rfl (by decide) (by decide) rfl rfl ?_
  refine r_goto 132 91 dX3_passAll_132 (by decide) ?_
  refine r_iload_n 91 dX3_passAll_91 rfl ?_
  refine r_bipush (v := 16) 92 dX3_passAll_92 (by decide) ?_
  refine r_icmp_geF 94 135 dX3_passAll_94 (by decide) (by decide) ?_
  refine r_aload_n 97 dX3_passAll_97 rfl ?_
  refine r_get 98 f_X3_13 dX3_passAll_98 0 rfl rfl ?_
  refine r_iload_n 101 dX3_passAll_101 rfl ?_
  refine r_aload_n 102 dX3_passAll_102 rfl ?_
  refine r_aload_n 103 dX3_passAll_103 rfl ?_
  refine r_get 104 f_X3_13 dX3_passAll_104 0 rfl rfl ?_
  refine r_iload_n 107 dX3_passAll_107 rfl ?_
  refine r_iaload 108 dX3_passAll_108 2 rfl (vp_lit (by decide)) (show Int32.toNatClampNeg 15 = 15 by decide) ?_
  refine r_callVD (ws2 := [_, _, _, _, _]) (wr := []) 109 s_X3_213 dX3_passAll_109 (m_pass1 (a := 99) (by decide)) rfl rfl 0 rfl rfl rfl [0, 1, 2, 3, 4] [] rfl rfl rfl rfl (by decide) jRm_ok (Nat.le_of_ble_eq_true rfl) ⟨(Nat.le_of_ble_eq_true rfl), (Nat.le_of_ble_eq_true rfl)⟩ [0, 1, 2, 3, 4] rfl rfl ?_
  refine r_arrI (f2 := kpW S 60 kp 40) (ws2 := [_, _, _, _, (_, .inl (_, _, .inl _))]) 4 rfl (fun j _ => kpW_s (lo := 60) (k := 39) rfl j) rfl ?_
  refine r_iastore (ws2 := [_, _, (_, .inl (_, _, .inl _)), _, _]) 112 dX3_passAll_112 2 rfl (vp_lit (by decide)) (show Int32.toNatClampNeg 15 = 15 by decide) rfl ?_
  refine r_arrI (f2 := fun p => fI (sF S p)) (ws2 := [_, _, (_, .inl (_, _, .inl _)), _, _]) 2 rfl (fun j _ => upd_id j) rfl ?_
  refine r_aload_n 113 dX3_passAll_113 rfl ?_
  refine r_get 114 f_X3_16 dX3_passAll_114 0 rfl rfl ?_
  refine r_iload_n 117 dX3_passAll_117 rfl ?_
  refine r_aload_n 118 dX3_passAll_118 rfl ?_
  refine r_aload_n 119 dX3_passAll_119 rfl ?_
  refine r_get 120 f_X3_16 dX3_passAll_120 0 rfl rfl ?_
  refine r_iload_n 123 dX3_passAll_123 rfl ?_
  refine r_iaload 124 dX3_passAll_124 3 rfl (vp_lit (by decide)) (show Int32.toNatClampNeg 15 = 15 by decide) ?_
  refine r_callVD (ws2 := [_, _, _, _, _]) (wr := []) 125 s_X3_213 dX3_passAll_125 (m_pass1 (a := 100) (by decide)) rfl rfl 0 rfl rfl rfl [0, 1, 2, 3, 4] [] rfl rfl rfl rfl (by decide) jRm_ok (Nat.le_of_ble_eq_true rfl) ⟨(Nat.le_of_ble_eq_true rfl), (Nat.le_of_ble_eq_true rfl)⟩ [0, 1, 2, 3, 4] rfl rfl ?_
  refine r_arrI (f2 := kpW S 60 kp 41) (ws2 := [_, _, _, _, (_, .inl (_, _, .inl _))]) 4 rfl (fun j _ => kpW_s (lo := 60) (k := 40) rfl j) rfl ?_
  refine r_iastore (ws2 := [_, _, _, (_, .inl (_, _, .inl _)), _]) 128 dX3_passAll_128 3 rfl (vp_lit (by decide)) (show Int32.toNatClampNeg 15 = 15 by decide) rfl ?_
  refine r_arrI (f2 := fun p => mI (sW S p)) (ws2 := [_, _, _, (_, .inl (_, _, .inl _)), _]) 3 rfl (fun j _ => upd_id j) rfl ?_
  refine r_iinc (v := 16) (lv2 := [_, _]) 129 dX3_passAll_129 rfl (by decide) (by decide) rfl rfl ?_
  refine r_goto 132 91 dX3_passAll_132 (by decide) ?_
  refine r_iload_n 91 dX3_passAll_91 rfl ?_
  refine r_bipush (v := 16) 92 dX3_passAll_92 (by decide) ?_
  refine r_icmp_geT 94 135 dX3_passAll_94 (by decide) (by decide) ?_
  exact r_ret 135 dX3_passAll_135 rfl (Nat.le_of_ble_eq_true rfl) (Nat.le_of_ble_eq_true rfl) (jdv rfl)
set_option maxRecDepth 100000 in
set_option maxHeartbeats 400000 in
theorem m_passR1 {G : jG} {d : Nat} {m : Nat} {A : Nat → Nat} {S T : qS} {pm se th : Int32} {kp : Nat → Int32} (hk : ∀ k, k < 41 → kp (60 + k) = imV T k) : Ct G yX3_passAll cX3_passAll 2 none (d + 2) 0 0 [.ref m] (wX G m A (S) pm se th (nI 60) 0 ++ [(A 12, .inl (G.2.2.1, 120, .inl (kp)))]) (jD none (wX G m A (T) pm se th (nI 101) 0 ++ [(A 12, .inl (G.2.2.1, 120, .inl (kp)))])) := by
  refine ct_of (by decide) (Nat.le_of_ble_eq_true rfl) (own := RX3) (nm := "passAll") rfl rfl (lv := [some (.ref m), none]) rfl ?_
  refine r_aload_n 0 dX3_passAll_0 rfl ?_
  refine r_aload_n 1 dX3_passAll_1 rfl ?_
  refine r_aload_n 2 dX3_passAll_2 rfl ?_
  refine r_get 3 f_X3_69 dX3_passAll_3 0 rfl rfl ?_
  refine r_callVD (ws2 := [_, _, _, _, _]) (wr := []) 6 s_X3_213 dX3_passAll_6 (m_pass0 (a := 60) (by decide)) rfl rfl 0 rfl rfl rfl [0, 1, 2, 3, 4] [] rfl rfl rfl rfl (by decide) jRm_ok (Nat.le_of_ble_eq_true rfl) ⟨(Nat.le_of_ble_eq_true rfl), (Nat.le_of_ble_eq_true rfl)⟩ [0, 1, 2, 3, 4] rfl rfl ?_
  refine r_ti (y := imV T 0) (hk 0 (by decide)) ?_
  refine r_put (ws2 := [(_, .inr (_, [_, _, _, _, _, _, _, _, _, _, _, _, _, _, _, _, _, _, _, _, _, _, _, _])), _, _, _, _]) 9 p_X3_69 dX3_passAll_9 0 rfl rfl rfl (Nat.le_of_ble_eq_true rfl) rfl ?_
  refine r_aload_n 12 dX3_passAll_12 rfl ?_
  refine r_aload_n 13 dX3_passAll_13 rfl ?_
  refine r_aload_n 14 dX3_passAll_14 rfl ?_
  refine r_get 15 f_X3_72 dX3_passAll_15 0 rfl rfl ?_
  refine r_callVD (ws2 := [_, _, _, _, _]) (wr := []) 18 s_X3_213 dX3_passAll_18 (m_pass0 (a := 61) (by decide)) rfl rfl 0 rfl rfl rfl [0, 1, 2, 3, 4] [] rfl rfl rfl rfl (by decide) jRm_ok (Nat.le_of_ble_eq_true rfl) ⟨(Nat.le_of_ble_eq_true rfl), (Nat.le_of_ble_eq_true rfl)⟩ [0, 1, 2, 3, 4] rfl rfl ?_
  refine r_ti (y := imV T 1) (hk 1 (by decide)) ?_
  refine r_put (ws2 := [(_, .inr (_, [_, _, _, _, _, _, _, _, _, _, _, _, _, _, _, _, _, _, _, _, _, _, _, _])), _, _, _, _]) 21 p_X3_72 dX3_passAll_21 0 rfl rfl rfl (Nat.le_of_ble_eq_true rfl) rfl ?_
  refine r_aload_n 24 dX3_passAll_24 rfl ?_
  refine r_aload_n 25 dX3_passAll_25 rfl ?_
  refine r_aload_n 26 dX3_passAll_26 rfl ?_
  refine r_get 27 f_X3_55 dX3_passAll_27 0 rfl rfl ?_
  refine r_callVD (ws2 := [_, _, _, _, _]) (wr := []) 30 s_X3_213 dX3_passAll_30 (m_pass0 (a := 62) (by decide)) rfl rfl 0 rfl rfl rfl [0, 1, 2, 3, 4] [] rfl rfl rfl rfl (by decide) jRm_ok (Nat.le_of_ble_eq_true rfl) ⟨(Nat.le_of_ble_eq_true rfl), (Nat.le_of_ble_eq_true rfl)⟩ [0, 1, 2, 3, 4] rfl rfl ?_
  refine r_ti (y := imV T 2) (hk 2 (by decide)) ?_
  refine r_put (ws2 := [(_, .inr (_, [_, _, _, _, _, _, _, _, _, _, _, _, _, _, _, _, _, _, _, _, _, _, _, _])), _, _, _, _]) 33 p_X3_55 dX3_passAll_33 0 rfl rfl rfl (Nat.le_of_ble_eq_true rfl) rfl ?_
  refine r_aload_n 36 dX3_passAll_36 rfl ?_
  refine r_aload_n 37 dX3_passAll_37 rfl ?_
  refine r_aload_n 38 dX3_passAll_38 rfl ?_
  refine r_get 39 f_X3_59 dX3_passAll_39 0 rfl rfl ?_
  refine r_callVD (ws2 := [_, _, _, _, _]) (wr := []) 42 s_X3_213 dX3_passAll_42 (m_pass0 (a := 63) (by decide)) rfl rfl 0 rfl rfl rfl [0, 1, 2, 3, 4] [] rfl rfl rfl rfl (by decide) jRm_ok (Nat.le_of_ble_eq_true rfl) ⟨(Nat.le_of_ble_eq_true rfl), (Nat.le_of_ble_eq_true rfl)⟩ [0, 1, 2, 3, 4] rfl rfl ?_
  refine r_ti (y := imV T 3) (hk 3 (by decide)) ?_
  refine r_put (ws2 := [(_, .inr (_, [_, _, _, _, _, _, _, _, _, _, _, _, _, _, _, _, _, _, _, _, _, _, _, _])), _, _, _, _]) 45 p_X3_59 dX3_passAll_45 0 rfl rfl rfl (Nat.le_of_ble_eq_true rfl) rfl ?_
  refine r_aload_n 48 dX3_passAll_48 rfl ?_
  refine r_aload_n 49 dX3_passAll_49 rfl ?_
  refine r_aload_n 50 dX3_passAll_50 rfl ?_
  refine r_get 51 f_X3_62 dX3_passAll_51 0 rfl rfl ?_
  refine r_callVD (ws2 := [_, _, _, _, _]) (wr := []) 54 s_X3_213 dX3_passAll_54 (m_pass0 (a := 64) (by decide)) rfl rfl 0 rfl rfl rfl [0, 1, 2, 3, 4] [] rfl rfl rfl rfl (by decide) jRm_ok (Nat.le_of_ble_eq_true rfl) ⟨(Nat.le_of_ble_eq_true rfl), (Nat.le_of_ble_eq_true rfl)⟩ [0, 1, 2, 3, 4] rfl rfl ?_
  refine r_ti (y := imV T 4) (hk 4 (by decide)) ?_
  refine r_put (ws2 := [(_, .inr (_, [_, _, _, _, _, _, _, _, _, _, _, _, _, _, _, _, _, _, _, _, _, _, _, _])), _, _, _, _]) 57 p_X3_62 dX3_passAll_57 0 rfl rfl rfl (Nat.le_of_ble_eq_true rfl) rfl ?_
  refine r_iconst (v := 0) 60 dX3_passAll_60 (by decide) ?_
  refine r_istore_n (lv2 := [_, _]) 61 dX3_passAll_61 (by decide) rfl rfl ?_
  refine r_iload_n 62 dX3_passAll_62 rfl ?_
  refine r_iconst (v := 4) 63 dX3_passAll_63 (by decide) ?_
  refine r_icmp_geF 64 89 dX3_passAll_64 (by decide) (by decide) ?_
  refine r_aload_n 67 dX3_passAll_67 rfl ?_
  refine r_get 68 f_X3_7 dX3_passAll_68 0 rfl rfl ?_
  refine r_iload_n 71 dX3_passAll_71 rfl ?_
  refine r_aload_n 72 dX3_passAll_72 rfl ?_
  refine r_aload_n 73 dX3_passAll_73 rfl ?_
  refine r_get 74 f_X3_7 dX3_passAll_74 0 rfl rfl ?_
  refine r_iload_n 77 dX3_passAll_77 rfl ?_
  refine r_iaload 78 dX3_passAll_78 1 rfl (vp_lit (by decide)) (show Int32.toNatClampNeg 0 = 0 by decide) ?_
  refine r_callVD (ws2 := [_, _, _, _, _]) (wr := []) 79 s_X3_213 dX3_passAll_79 (m_pass0 (a := 65) (by decide)) rfl rfl 0 rfl rfl rfl [0, 1, 2, 3, 4] [] rfl rfl rfl rfl (by decide) jRm_ok (Nat.le_of_ble_eq_true rfl) ⟨(Nat.le_of_ble_eq_true rfl), (Nat.le_of_ble_eq_true rfl)⟩ [0, 1, 2, 3, 4] rfl rfl ?_
  refine r_ti (y := imV T 5) (hk 5 (by decide)) ?_
  refine r_iastore (ws2 := [_, (_, .inl (_, _, .inl _)), _, _, _]) 82 dX3_passAll_82 1 rfl (vp_lit (by decide)) (show Int32.toNatClampNeg 0 = 0 by decide) rfl ?_
  refine r_iinc (v := 1) (lv2 := [_, _]) 83 dX3_passAll_83 rfl (by decide) (by decide) rfl rfl ?_
  refine r_goto 86 62 dX3_passAll_86 (by decide) ?_
  refine r_iload_n 62 dX3_passAll_62 rfl ?_
  refine r_iconst (v := 4) 63 dX3_passAll_63 (by decide) ?_
  refine r_icmp_geF 64 89 dX3_passAll_64 (by decide) (by decide) ?_
  refine r_aload_n 67 dX3_passAll_67 rfl ?_
  refine r_get 68 f_X3_7 dX3_passAll_68 0 rfl rfl ?_
  refine r_iload_n 71 dX3_passAll_71 rfl ?_
  refine r_aload_n 72 dX3_passAll_72 rfl ?_
  refine r_aload_n 73 dX3_passAll_73 rfl ?_
  refine r_get 74 f_X3_7 dX3_passAll_74 0 rfl rfl ?_
  refine r_iload_n 77 dX3_passAll_77 rfl ?_
  refine r_iaload 78 dX3_passAll_78 1 rfl (vp_lit (by decide)) (show Int32.toNatClampNeg 1 = 1 by decide) ?_
  refine r_callVD (ws2 := [_, _, _, _, _]) (wr := []) 79 s_X3_213 dX3_passAll_79 (m_pass0 (a := 66) (by decide)) rfl rfl 0 rfl rfl rfl [0, 1, 2, 3, 4] [] rfl rfl rfl rfl (by decide) jRm_ok (Nat.le_of_ble_eq_true rfl) ⟨(Nat.le_of_ble_eq_true rfl), (Nat.le_of_ble_eq_true rfl)⟩ [0, 1, 2, 3, 4] rfl rfl ?_
  refine r_ti (y := imV T 6) (hk 6 (by decide)) ?_
  refine r_iastore (ws2 := [_, (_, .inl (_, _, .inl _)), _, _, _]) 82 dX3_passAll_82 1 rfl (vp_lit (by decide)) (show Int32.toNatClampNeg 1 = 1 by decide) rfl ?_
  refine r_iinc (v := 2) (lv2 := [_, _]) 83 dX3_passAll_83 rfl (by decide) (by decide) rfl rfl ?_
  refine r_goto 86 62 dX3_passAll_86 (by decide) ?_
  refine r_iload_n 62 dX3_passAll_62 rfl ?_
  refine r_iconst (v := 4) 63 dX3_passAll_63 (by decide) ?_
  refine r_icmp_geF 64 89 dX3_passAll_64 (by decide) (by decide) ?_
  refine r_aload_n 67 dX3_passAll_67 rfl ?_
  refine r_get 68 f_X3_7 dX3_passAll_68 0 rfl rfl ?_
  refine r_iload_n 71 dX3_passAll_71 rfl ?_
  refine r_aload_n 72 dX3_passAll_72 rfl ?_
  refine r_aload_n 73 dX3_passAll_73 rfl ?_
  refine r_get 74 f_X3_7 dX3_passAll_74 0 rfl rfl ?_
  refine r_iload_n 77 dX3_passAll_77 rfl ?_
  refine r_iaload 78 dX3_passAll_78 1 rfl (vp_lit (by decide)) (show Int32.toNatClampNeg 2 = 2 by decide) ?_
  refine r_callVD (ws2 := [_, _, _, _, _]) (wr := []) 79 s_X3_213 dX3_passAll_79 (m_pass0 (a := 67) (by decide)) rfl rfl 0 rfl rfl rfl [0, 1, 2, 3, 4] [] rfl rfl rfl rfl (by decide) jRm_ok (Nat.le_of_ble_eq_true rfl) ⟨(Nat.le_of_ble_eq_true rfl), (Nat.le_of_ble_eq_true rfl)⟩ [0, 1, 2, 3, 4] rfl rfl ?_
  refine r_ti (y := imV T 7) (hk 7 (by decide)) ?_
  refine r_iastore (ws2 := [_, (_, .inl (_, _, .inl _)), _, _, _]) 82 dX3_passAll_82 1 rfl (vp_lit (by decide)) (show Int32.toNatClampNeg 2 = 2 by decide) rfl ?_
  refine r_iinc (v := 3) (lv2 := [_, _]) 83 dX3_passAll_83 rfl (by decide) (by decide) rfl rfl ?_
  refine r_goto 86 62 dX3_passAll_86 (by decide) ?_
  refine r_iload_n 62 dX3_passAll_62 rfl ?_
  refine r_iconst (v := 4) 63 dX3_passAll_63 (by decide) ?_
  refine r_icmp_geF 64 89 dX3_passAll_64 (by decide) (by decide) ?_
  refine r_aload_n 67 dX3_passAll_67 rfl ?_
  refine r_get 68 f_X3_7 dX3_passAll_68 0 rfl rfl ?_
  refine r_iload_n 71 dX3_passAll_71 rfl ?_
  refine r_aload_n 72 dX3_passAll_72 rfl ?_
  refine r_aload_n 73 dX3_passAll_73 rfl ?_
  refine r_get 74 f_X3_7 dX3_passAll_74 0 rfl rfl ?_
  refine r_iload_n 77 dX3_passAll_77 rfl ?_
  refine r_iaload 78 dX3_passAll_78 1 rfl (vp_lit (by decide)) (show Int32.toNatClampNeg 3 = 3 by decide) ?_
  refine r_callVD (ws2 := [_, _, _, _, _]) (wr := []) 79 s_X3_213 dX3_passAll_79 (m_pass0 (a := 68) (by decide)) rfl rfl 0 rfl rfl rfl [0, 1, 2, 3, 4] [] rfl rfl rfl rfl (by decide) jRm_ok (Nat.le_of_ble_eq_true rfl) ⟨(Nat.le_of_ble_eq_true rfl), (Nat.le_of_ble_eq_true rfl)⟩ [0, 1, 2, 3, 4] rfl rfl ?_
  refine r_ti (y := imV T 8) (hk 8 (by decide)) ?_
  refine r_iastore (ws2 := [_, (_, .inl (_, _, .inl _)), _, _, _]) 82 dX3_passAll_82 1 rfl (vp_lit (by decide)) (show Int32.toNatClampNeg 3 = 3 by decide) rfl ?_
  refine r_iinc (v := 4) (lv2 := [_, _]) 83 dX3_passAll_83 rfl (by decide) (by decide) rfl rfl ?_
  refine r_goto 86 62 dX3_passAll_86 (by decide) ?_
  refine r_iload_n 62 dX3_passAll_62 rfl ?_
  refine r_iconst (v := 4) 63 dX3_passAll_63 (by decide) ?_
  refine r_icmp_geT 64 89 dX3_passAll_64 (by decide) (by decide) ?_
  refine r_iconst (v := 0) 89 dX3_passAll_89 (by decide) ?_
  refine r_istore_n (lv2 := [_, _]) 90 dX3_passAll_90 (by decide) rfl rfl ?_
  refine r_iload_n 91 dX3_passAll_91 rfl ?_
  refine r_bipush (v := 16) 92 dX3_passAll_92 (by decide) ?_
  refine r_icmp_geF 94 135 dX3_passAll_94 (by decide) (by decide) ?_
  refine r_aload_n 97 dX3_passAll_97 rfl ?_
  refine r_get 98 f_X3_13 dX3_passAll_98 0 rfl rfl ?_
  refine r_iload_n 101 dX3_passAll_101 rfl ?_
  refine r_aload_n 102 dX3_passAll_102 rfl ?_
  refine r_aload_n 103 dX3_passAll_103 rfl ?_
  refine r_get 104 f_X3_13 dX3_passAll_104 0 rfl rfl ?_
  refine r_iload_n 107 dX3_passAll_107 rfl ?_
  refine r_iaload 108 dX3_passAll_108 2 rfl (vp_lit (by decide)) (show Int32.toNatClampNeg 0 = 0 by decide) ?_
  refine r_callVD (ws2 := [_, _, _, _, _]) (wr := []) 109 s_X3_213 dX3_passAll_109 (m_pass0 (a := 69) (by decide)) rfl rfl 0 rfl rfl rfl [0, 1, 2, 3, 4] [] rfl rfl rfl rfl (by decide) jRm_ok (Nat.le_of_ble_eq_true rfl) ⟨(Nat.le_of_ble_eq_true rfl), (Nat.le_of_ble_eq_true rfl)⟩ [0, 1, 2, 3, 4] rfl rfl ?_
  refine r_ti (y := imV T 9) (hk 9 (by decide)) ?_
  refine r_iastore (ws2 := [_, _, (_, .inl (_, _, .inl _)), _, _]) 112 dX3_passAll_112 2 rfl (vp_lit (by decide)) (show Int32.toNatClampNeg 0 = 0 by decide) rfl ?_
  refine r_aload_n 113 dX3_passAll_113 rfl ?_
  refine r_get 114 f_X3_16 dX3_passAll_114 0 rfl rfl ?_
  refine r_iload_n 117 dX3_passAll_117 rfl ?_
  refine r_aload_n 118 dX3_passAll_118 rfl ?_
  refine r_aload_n 119 dX3_passAll_119 rfl ?_
  refine r_get 120 f_X3_16 dX3_passAll_120 0 rfl rfl ?_
  refine r_iload_n 123 dX3_passAll_123 rfl ?_
  refine r_iaload 124 dX3_passAll_124 3 rfl (vp_lit (by decide)) (show Int32.toNatClampNeg 0 = 0 by decide) ?_
  refine r_callVD (ws2 := [_, _, _, _, _]) (wr := []) 125 s_X3_213 dX3_passAll_125 (m_pass0 (a := 70) (by decide)) rfl rfl 0 rfl rfl rfl [0, 1, 2, 3, 4] [] rfl rfl rfl rfl (by decide) jRm_ok (Nat.le_of_ble_eq_true rfl) ⟨(Nat.le_of_ble_eq_true rfl), (Nat.le_of_ble_eq_true rfl)⟩ [0, 1, 2, 3, 4] rfl rfl ?_
  refine r_ti (y := imV T 10) (hk 10 (by decide)) ?_
  refine r_iastore (ws2 := [_, _, _, (_, .inl (_, _, .inl _)), _]) 128 dX3_passAll_128 3 rfl (vp_lit (by decide)) (show Int32.toNatClampNeg 0 = 0 by decide) rfl ?_
  refine r_iinc (v := 1) (lv2 := [_, _]) 129 dX3_passAll_129 rfl (by decide) (by decide) rfl rfl ?_
  refine r_goto 132 91 dX3_passAll_132 (by decide) ?_
  refine r_iload_n 91 dX3_passAll_91 rfl ?_
  refine r_bipush (v := 16) 92 dX3_passAll_92 (by decide) ?_
  refine r_icmp_geF 94 135 dX3_passAll_94 (by decide) (by decide) ?_
  refine r_aload_n 97 dX3_passAll_97 rfl ?_
  refine r_get 98 f_X3_13 dX3_passAll_98 0 rfl rfl ?_
  refine r_iload_n 101 dX3_passAll_101 rfl ?_
  refine r_aload_n 102 dX3_passAll_102 rfl ?_
  refine r_aload_n 103 dX3_passAll_103 rfl ?_
  refine r_get 104 f_X3_13 dX3_passAll_104 0 rfl rfl ?_
  refine r_iload_n 107 dX3_passAll_107 rfl ?_
  refine r_iaload 108 dX3_passAll_108 2 rfl (vp_lit (by decide)) (show Int32.toNatClampNeg 1 = 1 by decide) ?_
  refine r_callVD (ws2 := [_, _, _, _, _]) (wr := []) 109 s_X3_213 dX3_passAll_109 (m_pass0 (a := 71) (by decide)) rfl rfl 0 rfl rfl rfl [0, 1, 2, 3, 4] [] rfl rfl rfl rfl (by decide) jRm_ok (Nat.le_of_ble_eq_true rfl) ⟨(Nat.le_of_ble_eq_true rfl), (Nat.le_of_ble_eq_true rfl)⟩ [0, 1, 2, 3, 4] rfl rfl ?_
  refine r_ti (y := imV T 11) (hk 11 (by decide)) ?_
  refine r_iastore (ws2 := [_, _, (_, .inl (_, _, .inl _)), _, _]) 112 dX3_passAll_112 2 rfl (vp_lit (by decide)) (show Int32.toNatClampNeg 1 = 1 by decide) rfl ?_
  refine r_aload_n 113 dX3_passAll_113 rfl ?_
  refine r_get 114 f_X3_16 dX3_passAll_114 0 rfl rfl ?_
  refine r_iload_n 117 dX3_passAll_117 rfl ?_
  refine r_aload_n 118 dX3_passAll_118 rfl ?_
  refine r_aload_n 119 dX3_passAll_119 rfl ?_
  refine r_get 120 f_X3_16 dX3_passAll_120 0 rfl rfl ?_
  refine r_iload_n 123 dX3_passAll_123 rfl ?_
  refine r_iaload 124 dX3_passAll_124 3 rfl (vp_lit (by decide)) (show Int32.toNatClampNeg 1 = 1 by decide) ?_
  refine r_callVD (ws2 := [_, _, _, _, _]) (wr := []) 125 s_X3_213 dX3_passAll_125 (m_pass0 (a := 72) (by decide)) rfl rfl 0 rfl rfl rfl [0, 1, 2, 3, 4] [] rfl rfl rfl rfl (by decide) jRm_ok (Nat.le_of_ble_eq_true rfl) ⟨(Nat.le_of_ble_eq_true rfl), (Nat.le_of_ble_eq_true rfl)⟩ [0, 1, 2, 3, 4] rfl rfl ?_
  refine r_ti (y := imV T 12) (hk 12 (by decide)) ?_
  refine r_iastore (ws2 := [_, _, _, (_, .inl (_, _, .inl _)), _]) 128 dX3_passAll_128 3 rfl (vp_lit (by decide)) (show Int32.toNatClampNeg 1 = 1 by decide) rfl ?_
  refine r_iinc (v := 2) (lv2 := [_, _]) 129 dX3_passAll_129 rfl (by decide) (by decide) rfl rfl ?_
  refine r_goto 132 91 dX3_passAll_132 (by decide) ?_
  refine r_iload_n 91 dX3_passAll_91 rfl ?_
  refine r_bipush (v := 16) 92 dX3_passAll_92 (by decide) ?_
  refine r_icmp_geF 94 135 dX3_passAll_94 (by decide) (by decide) ?_
  refine r_aload_n 97 dX3_passAll_97 rfl ?_
  refine r_get 98 f_X3_13 dX3_passAll_98 0 rfl rfl ?_
  refine r_iload_n 101 dX3_passAll_101 rfl ?_
  refine r_aload_n 102 dX3_passAll_102 rfl ?_
  refine r_aload_n 103 dX3_passAll_103 rfl ?_
  refine r_get 104 f_X3_13 dX3_passAll_104 0 rfl rfl ?_
  refine r_iload_n 107 dX3_passAll_107 rfl ?_
  refine r_iaload 108 dX3_passAll_108 2 rfl (vp_lit (by decide)) (show Int32.toNatClampNeg 2 = 2 by decide) ?_
  refine r_callVD (ws2 := [_, _, _, _, _]) (wr := []) 109 s_X3_213 dX3_passAll_109 (m_pass0 (a := 73) (by decide)) rfl rfl 0 rfl rfl rfl [0, 1, 2, 3, 4] [] rfl rfl rfl rfl (by decide) jRm_ok (Nat.le_of_ble_eq_true rfl) ⟨(Nat.le_of_ble_eq_true rfl), (Nat.le_of_ble_eq_true rfl)⟩ [0, 1, 2, 3, 4] rfl rfl ?_
  refine r_ti (y := imV T 13) (hk 13 (by decide)) ?_
  refine r_iastore (ws2 := [_, _, (_, .inl (_, _, .inl _)), _, _]) 112 dX3_passAll_112 2 rfl (vp_lit (by decide)) (show Int32.toNatClampNeg 2 = 2 by decide) rfl ?_
  refine r_aload_n 113 dX3_passAll_113 rfl ?_
  refine r_get 114 f_X3_16 dX3_passAll_114 0 rfl rfl ?_
  refine r_iload_n 117 dX3_passAll_117 rfl ?_
  refine r_aload_n 118 dX3_passAll_118 rfl ?_
  refine r_aload_n 119 dX3_passAll_119 rfl ?_
  refine r_get 120 f_X3_16 dX3_passAll_120 0 rfl rfl ?_
  refine r_iload_n 123 dX3_passAll_123 rfl ?_
  refine r_iaload 124 dX3_passAll_124 3 rfl (vp_lit (by decide)) (show Int32.toNatClampNeg 2 = 2 by decide) ?_
  refine r_callVD (ws2 := [_, _, _, _, _]) (wr := []) 125 s_X3_213 dX3_passAll_125 (m_pass0 (a := 74) (by decide)) rfl rfl 0 rfl rfl rfl [0, 1, 2, 3, 4] [] rfl rfl rfl rfl (by decide) jRm_ok (Nat.le_of_ble_eq_true rfl) ⟨(Nat.le_of_ble_eq_true rfl), (Nat.le_of_ble_eq_true rfl)⟩ [0, 1, 2, 3, 4] rfl rfl ?_
  refine r_ti (y := imV T 14) (hk 14 (by decide)) ?_
  refine r_iastore (ws2 := [_, _, _, (_, .inl (_, _, .inl _)), _]) 128 dX3_passAll_128 3 rfl (vp_lit (by decide)) (show Int32.toNatClampNeg 2 = 2 by decide) rfl ?_
  refine r_iinc (v := 3) (lv2 := [_, _]) 129 dX3_passAll_129 rfl (by decide) (by decide) rfl rfl ?_
  refine r_goto 132 91 dX3_passAll_132 (by decide) ?_
  refine r_iload_n 91 dX3_passAll_91 rfl ?_
  refine r_bipush (v := 16) 92 dX3_passAll_92 (by decide) ?_
  refine r_icmp_geF 94 135 dX3_passAll_94 (by decide) (by decide) ?_
  refine r_aload_n 97 dX3_passAll_97 rfl ?_
  refine r_get 98 f_X3_13 dX3_passAll_98 0 rfl rfl ?_
  refine r_iload_n 101 dX3_passAll_101 rfl ?_
  refine r_aload_n 102 dX3_passAll_102 rfl ?_
  refine r_aload_n 103 dX3_passAll_103 rfl ?_
  refine r_get 104 f_X3_13 dX3_passAll_104 0 rfl rfl ?_
  refine r_iload_n 107 dX3_passAll_107 rfl ?_
  refine r_iaload 108 dX3_passAll_108 2 rfl (vp_lit (by decide)) (show Int32.toNatClampNeg 3 = 3 by decide) ?_
  refine r_callVD (ws2 := [_, _, _, _, _]) (wr := []) 109 s_X3_213 dX3_passAll_109 (m_pass0 (a := 75) (by decide)) rfl rfl 0 rfl rfl rfl [0, 1, 2, 3, 4] [] rfl rfl rfl rfl (by decide) jRm_ok (Nat.le_of_ble_eq_true rfl) ⟨(Nat.le_of_ble_eq_true rfl), (Nat.le_of_ble_eq_true rfl)⟩ [0, 1, 2, 3, 4] rfl rfl ?_
  refine r_ti (y := imV T 15) (hk 15 (by decide)) ?_
  refine r_iastore (ws2 := [_, _, (_, .inl (_, _, .inl _)), _, _]) 112 dX3_passAll_112 2 rfl (vp_lit (by decide)) (show Int32.toNatClampNeg 3 = 3 by decide) rfl ?_
  refine r_aload_n 113 dX3_passAll_113 rfl ?_
  refine r_get 114 f_X3_16 dX3_passAll_114 0 rfl rfl ?_
  refine r_iload_n 117 dX3_passAll_117 rfl ?_
  refine r_aload_n 118 dX3_passAll_118 rfl ?_
  refine r_aload_n 119 dX3_passAll_119 rfl ?_
  refine r_get 120 f_X3_16 dX3_passAll_120 0 rfl rfl ?_
  refine r_iload_n 123 dX3_passAll_123 rfl ?_
  refine r_iaload 124 dX3_passAll_124 3 rfl (vp_lit (by decide)) (show Int32.toNatClampNeg 3 = 3 by decide) ?_
  refine r_callVD (ws2 := [_, _, _, _, _]) (wr := []) 125 s_X3_213 dX3_passAll_125 (m_pass0 (a := 76) (by decide)) rfl rfl 0 rfl rfl rfl [0, 1, 2, 3, 4] [] rfl rfl rfl rfl (by decide) jRm_ok (Nat.le_of_ble_eq_true rfl) ⟨(Nat.le_of_ble_eq_true rfl), (Nat.le_of_ble_eq_true rfl)⟩ [0, 1, 2, 3, 4] rfl rfl ?_
  refine r_ti (y := imV T 16) (hk 16 (by decide)) ?_
  refine r_iastore (ws2 := [_, _, _, (_, .inl (_, _, .inl _)), _]) 128 dX3_passAll_128 3 rfl (vp_lit (by decide)) (show Int32.toNatClampNeg 3 = 3 by decide) rfl ?_
  refine r_iinc (v := 4) (lv2 := [_, _]) 129 dX3_passAll_129 rfl (by decide) (by decide) rfl rfl ?_
  refine r_goto 132 91 dX3_passAll_132 (by decide) ?_
  refine r_iload_n 91 dX3_passAll_91 rfl ?_
  refine r_bipush (v := 16) 92 dX3_passAll_92 (by decide) ?_
  refine r_icmp_geF 94 135 dX3_passAll_94 (by decide) (by decide) ?_
  refine r_aload_n 97 dX3_passAll_97 rfl ?_
  refine r_get 98 f_X3_13 dX3_passAll_98 0 rfl rfl ?_
  refine r_iload_n 101 dX3_passAll_101 rfl ?_
  refine r_aload_n 102 dX3_passAll_102 rfl ?_
  refine r_aload_n 103 dX3_passAll_103 rfl ?_
  refine r_get 104 f_X3_13 dX3_passAll_104 0 rfl rfl ?_
  refine r_iload_n 107 dX3_passAll_107 rfl ?_
  refine r_iaload 108 dX3_passAll_108 2 rfl (vp_lit (by decide)) (show Int32.toNatClampNeg 4 = 4 by decide) ?_
  refine r_callVD (ws2 := [_, _, _, _, _]) (wr := []) 109 s_X3_213 dX3_passAll_109 (m_pass0 (a := 77) (by decide)) rfl rfl 0 rfl rfl rfl [0, 1, 2, 3, 4] [] rfl rfl rfl rfl (by decide) jRm_ok (Nat.le_of_ble_eq_true rfl) ⟨(Nat.le_of_ble_eq_true rfl), (Nat.le_of_ble_eq_true rfl)⟩ [0, 1, 2, 3, 4] rfl rfl ?_
  refine r_ti (y := imV T 17) (hk 17 (by decide)) ?_
  refine r_iastore (ws2 := [_, _, (_, .inl (_, _, .inl _)), _, _]) 112 dX3_passAll_112 2 rfl (vp_lit (by decide)) (show Int32.toNatClampNeg 4 = 4 by decide) rfl ?_
  refine r_aload_n 113 dX3_passAll_113 rfl ?_
  refine r_get 114 f_X3_16 dX3_passAll_114 0 rfl rfl ?_
  refine r_iload_n 117 dX3_passAll_117 rfl ?_
  refine r_aload_n 118 dX3_passAll_118 rfl ?_
  refine r_aload_n 119 dX3_passAll_119 rfl ?_
  refine r_get 120 f_X3_16 dX3_passAll_120 0 rfl rfl ?_
  refine r_iload_n 123 dX3_passAll_123 rfl ?_
  refine r_iaload 124 dX3_passAll_124 3 rfl (vp_lit (by decide)) (show Int32.toNatClampNeg 4 = 4 by decide) ?_
  refine r_callVD (ws2 := [_, _, _, _, _]) (wr := []) 125 s_X3_213 dX3_passAll_125 (m_pass0 (a := 78) (by decide)) rfl rfl 0 rfl rfl rfl [0, 1, 2, 3, 4] [] rfl rfl rfl rfl (by decide) jRm_ok (Nat.le_of_ble_eq_true rfl) ⟨(Nat.le_of_ble_eq_true rfl), (Nat.le_of_ble_eq_true rfl)⟩ [0, 1, 2, 3, 4] rfl rfl ?_
  refine r_ti (y := imV T 18) (hk 18 (by decide)) ?_
  refine r_iastore (ws2 := [_, _, _, (_, .inl (_, _, .inl _)), _]) 128 dX3_passAll_128 3 rfl (vp_lit (by decide)) (show Int32.toNatClampNeg 4 = 4 by decide) rfl ?_
  refine r_iinc (v := 5) (lv2 := [_, _]) 129 dX3_passAll_129 rfl (by decide) (by decide) rfl rfl ?_
  refine r_goto 132 91 dX3_passAll_132 (by decide) ?_
  refine r_iload_n 91 dX3_passAll_91 rfl ?_
  refine r_bipush (v := 16) 92 dX3_passAll_92 (by decide) ?_
  refine r_icmp_geF 94 135 dX3_passAll_94 (by decide) (by decide) ?_
  refine r_aload_n 97 dX3_passAll_97 rfl ?_
  refine r_get 98 f_X3_13 dX3_passAll_98 0 rfl rfl ?_
  refine r_iload_n 101 dX3_passAll_101 rfl ?_
  refine r_aload_n 102 dX3_passAll_102 rfl ?_
  refine r_aload_n 103 dX3_passAll_103 rfl ?_
  refine r_get 104 f_X3_13 dX3_passAll_104 0 rfl rfl ?_
  refine r_iload_n 107 dX3_passAll_107 rfl ?_
  refine r_iaload 108 dX3_passAll_108 2 rfl (vp_lit (by decide)) (show Int32.toNatClampNeg 5 = 5 by decide) ?_
  refine r_callVD (ws2 := [_, _, _, _, _]) (wr := []) 109 s_X3_213 dX3_passAll_109 (m_pass0 (a := 79) (by decide)) rfl rfl 0 rfl rfl rfl [0, 1, 2, 3, 4] [] rfl rfl rfl rfl (by decide) jRm_ok (Nat.le_of_ble_eq_true rfl) ⟨(Nat.le_of_ble_eq_true rfl), (Nat.le_of_ble_eq_true rfl)⟩ [0, 1, 2, 3, 4] rfl rfl ?_
  refine r_ti (y := imV T 19) (hk 19 (by decide)) ?_
  refine r_iastore (ws2 := [_, _, (_, .inl (_, _, .inl _)), _, _]) 112 dX3_passAll_112 2 rfl (vp_lit (by decide)) (show Int32.toNatClampNeg 5 = 5 by decide) rfl ?_
  refine r_aload_n 113 dX3_passAll_113 rfl ?_
  refine r_get 114 f_X3_16 dX3_passAll_114 0 rfl rfl ?_
  refine r_iload_n 117 dX3_passAll_117 rfl ?_
  refine r_aload_n 118 dX3_passAll_118 rfl ?_
  refine r_aload_n 119 dX3_passAll_119 rfl ?_
  refine r_get 120 f_X3_16 dX3_passAll_120 0 rfl rfl ?_
  refine r_iload_n 123 dX3_passAll_123 rfl ?_
  refine r_iaload 124 dX3_passAll_124 3 rfl (vp_lit (by decide)) (show Int32.toNatClampNeg 5 = 5 by decide) ?_
  refine r_callVD (ws2 := [_, _, _, _, _]) (wr := []) 125 s_X3_213 dX3_passAll_125 (m_pass0 (a := 80) (by decide)) rfl rfl 0 rfl rfl rfl [0, 1, 2, 3, 4] [] rfl rfl rfl rfl (by decide) jRm_ok (Nat.le_of_ble_eq_true rfl) ⟨(Nat.le_of_ble_eq_true rfl), (Nat.le_of_ble_eq_true rfl)⟩ [0, 1, 2, 3, 4] rfl rfl ?_
  refine r_ti (y := imV T 20) (hk 20 (by decide)) ?_
  refine r_iastore (ws2 := [_, _, _, (_, .inl (_, _, .inl _)), _]) 128 dX3_passAll_128 3 rfl (vp_lit (by decide)) (show Int32.toNatClampNeg 5 = 5 by decide) rfl ?_
  refine r_iinc (v := 6) (lv2 := [_, _]) 129 dX3_passAll_129 rfl (by decide) (by decide) rfl rfl ?_
  refine r_goto 132 91 dX3_passAll_132 (by decide) ?_
  refine r_iload_n 91 dX3_passAll_91 rfl ?_
  refine r_bipush (v := 16) 92 dX3_passAll_92 (by decide) ?_
  refine r_icmp_geF 94 135 dX3_passAll_94 (by decide) (by decide) ?_
  refine r_aload_n 97 dX3_passAll_97 rfl ?_
  refine r_get 98 f_X3_13 dX3_passAll_98 0 rfl rfl ?_
  refine r_iload_n 101 dX3_passAll_101 rfl ?_
  refine r_aload_n 102 dX3_passAll_102 rfl ?_
  refine r_aload_n 103 dX3_passAll_103 rfl ?_
  refine r_get 104 f_X3_13 dX3_passAll_104 0 rfl rfl ?_
  refine r_iload_n 107 dX3_passAll_107 rfl ?_
  refine r_iaload 108 dX3_passAll_108 2 rfl (vp_lit (by decide)) (show Int32.toNatClampNeg 6 = 6 by decide) ?_
  refine r_callVD (ws2 := [_, _, _, _, _]) (wr := []) 109 s_X3_213 dX3_passAll_109 (m_pass0 (a := 81) (by decide)) rfl rfl 0 rfl rfl rfl [0, 1, 2, 3, 4] [] rfl rfl rfl rfl (by decide) jRm_ok (Nat.le_of_ble_eq_true rfl) ⟨(Nat.le_of_ble_eq_true rfl), (Nat.le_of_ble_eq_true rfl)⟩ [0, 1, 2, 3, 4] rfl rfl ?_
  refine r_ti (y := imV T 21) (hk 21 (by decide)) ?_
  refine r_iastore (ws2 := [_, _, (_, .inl (_, _, .inl _)), _, _]) 112 dX3_passAll_112 2 rfl (vp_lit (by decide)) (show Int32.toNatClampNeg 6 = 6 by decide) rfl ?_
  refine r_aload_n 113 dX3_passAll_113 rfl ?_
  refine r_get 114 f_X3_16 dX3_passAll_114 0 rfl rfl ?_
  refine r_iload_n 117 dX3_passAll_117 rfl ?_
  refine r_aload_n 118 dX3_passAll_118 rfl ?_
  refine r_aload_n 119 dX3_passAll_119 rfl ?_
  refine r_get 120 f_X3_16 dX3_passAll_120 0 rfl rfl ?_
  refine r_iload_n 123 dX3_passAll_123 rfl ?_
  refine r_iaload 124 dX3_passAll_124 3 rfl (vp_lit (by decide)) (show Int32.toNatClampNeg 6 = 6 by decide) ?_
  refine r_callVD (ws2 := [_, _, _, _, _]) (wr := []) 125 s_X3_213 dX3_passAll_125 (m_pass0 (a := 82) (by decide)) rfl rfl 0 rfl rfl rfl [0, 1, 2, 3, 4] [] rfl rfl rfl rfl (by decide) jRm_ok (Nat.le_of_ble_eq_true rfl) ⟨(Nat.le_of_ble_eq_true rfl), (Nat.le_of_ble_eq_true rfl)⟩ [0, 1, 2, 3, 4] rfl rfl ?_
  refine r_ti (y := imV T 22) (hk 22 (by decide)) ?_
  refine r_iastore (ws2 := [_, _, _, (_, .inl (_, _, .inl _)), _]) 128 dX3_passAll_128 3 rfl (vp_lit (by decide)) (show Int32.toNatClampNeg 6 = 6 by decide) rfl ?_
  refine r_iinc (v := 7) (lv2 := [_, _]) 129 dX3_passAll_129 rfl (by decide) (by decide) rfl rfl ?_
  refine r_goto 132 91 dX3_passAll_132 (by decide) ?_
  refine r_iload_n 91 dX3_passAll_91 rfl ?_
  refine r_bipush (v := 16) 92 dX3_passAll_92 (by decide) ?_
  refine r_icmp_geF 94 135 dX3_passAll_94 (by decide) (by decide) ?_
  refine r_aload_n 97 dX3_passAll_97 rfl ?_
  refine r_get 98 f_X3_13 dX3_passAll_98 0 rfl rfl ?_
  refine r_iload_n 101 dX3_passAll_101 rfl ?_
  refine r_aload_n 102 dX3_passAll_102 rfl ?_
  refine r_aload_n 103 dX3_passAll_103 rfl ?_
  refine r_get 104 f_X3_13 dX3_passAll_104 0 rfl rfl ?_
  refine r_iload_n 107 dX3_passAll_107 rfl ?_
  refine r_iaload 108 dX3_passAll_108 2 rfl (vp_lit (by decide)) (show Int32.toNatClampNeg 7 = 7 by decide) ?_
  refine r_callVD (ws2 := [_, _, _, _, _]) (wr := []) 109 s_X3_213 dX3_passAll_109 (m_pass0 (a := 83) (by decide)) rfl rfl 0 rfl rfl rfl [0, 1, 2, 3, 4] [] rfl rfl rfl rfl (by decide) jRm_ok (Nat.le_of_ble_eq_true rfl) ⟨(Nat.le_of_ble_eq_true rfl), (Nat.le_of_ble_eq_true rfl)⟩ [0, 1, 2, 3, 4] rfl rfl ?_
  refine r_ti (y := imV T 23) (hk 23 (by decide)) ?_
  refine r_iastore (ws2 := [_, _, (_, .inl (_, _, .inl _)), _, _]) 112 dX3_passAll_112 2 rfl (vp_lit (by decide)) (show Int32.toNatClampNeg 7 = 7 by decide) rfl ?_
  refine r_aload_n 113 dX3_passAll_113 rfl ?_
  refine r_get 114 f_X3_16 dX3_passAll_114 0 rfl rfl ?_
  refine r_iload_n 117 dX3_passAll_117 rfl ?_
  refine r_aload_n 118 dX3_passAll_118 rfl ?_
  refine r_aload_n 119 dX3_passAll_119 rfl ?_
  refine r_get 120 f_X3_16 dX3_passAll_120 0 rfl rfl ?_
  refine r_iload_n 123 dX3_passAll_123 rfl ?_
  refine r_iaload 124 dX3_passAll_124 3 rfl (vp_lit (by decide)) (show Int32.toNatClampNeg 7 = 7 by decide) ?_
  refine r_callVD (ws2 := [_, _, _, _, _]) (wr := []) 125 s_X3_213 dX3_passAll_125 (m_pass0 (a := 84) (by decide)) rfl rfl 0 rfl rfl rfl [0, 1, 2, 3, 4] [] rfl rfl rfl rfl (by decide) jRm_ok (Nat.le_of_ble_eq_true rfl) ⟨(Nat.le_of_ble_eq_true rfl), (Nat.le_of_ble_eq_true rfl)⟩ [0, 1, 2, 3, 4] rfl rfl ?_
  refine r_ti (y := imV T 24) (hk 24 (by decide)) ?_
  refine r_iastore (ws2 := [_, _, _, (_, .inl (_, _, .inl _)), _]) 128 dX3_passAll_128 3 rfl (vp_lit (by decide)) (show Int32.toNatClampNeg 7 = 7 by decide) rfl ?_
  refine r_iinc (v := 8) (lv2 := [_, _]) 129 dX3_passAll_129 rfl (by decide) (by decide) rfl rfl ?_
  refine r_goto 132 91 dX3_passAll_132 (by decide) ?_
  refine r_iload_n 91 dX3_passAll_91 rfl ?_
  refine r_bipush (v := 16) 92 dX3_passAll_92 (by decide) ?_
  refine r_icmp_geF 94 135 dX3_passAll_94 (by decide) (by decide) ?_
  refine r_aload_n 97 dX3_passAll_97 rfl ?_
  refine r_get 98 f_X3_13 dX3_passAll_98 0 rfl rfl ?_
  refine r_iload_n 101 dX3_passAll_101 rfl ?_
  refine r_aload_n 102 dX3_passAll_102 rfl ?_
  refine r_aload_n 103 dX3_passAll_103 rfl ?_
  refine r_get 104 f_X3_13 dX3_passAll_104 0 rfl rfl ?_
  refine r_iload_n 107 dX3_passAll_107 rfl ?_
  refine r_iaload 108 dX3_passAll_108 2 rfl (vp_lit (by decide)) (show Int32.toNatClampNeg 8 = 8 by decide) ?_
  refine r_callVD (ws2 := [_, _, _, _, _]) (wr := []) 109 s_X3_213 dX3_passAll_109 (m_pass0 (a := 85) (by decide)) rfl rfl 0 rfl rfl rfl [0, 1, 2, 3, 4] [] rfl rfl rfl rfl (by decide) jRm_ok (Nat.le_of_ble_eq_true rfl) ⟨(Nat.le_of_ble_eq_true rfl), (Nat.le_of_ble_eq_true rfl)⟩ [0, 1, 2, 3, 4] rfl rfl ?_
  refine r_ti (y := imV T 25) (hk 25 (by decide)) ?_
  refine r_iastore (ws2 := [_, _, (_, .inl (_, _, .inl _)), _, _]) 112 dX3_passAll_112 2 rfl (vp_lit (by decide)) (show Int32.toNatClampNeg 8 = 8 by decide) rfl ?_
  refine r_aload_n 113 dX3_passAll_113 rfl ?_
  refine r_get 114 f_X3_16 dX3_passAll_114 0 rfl rfl ?_
  refine r_iload_n 117 dX3_passAll_117 rfl ?_
  refine r_aload_n 118 dX3_passAll_118 rfl ?_
  refine r_aload_n 119 dX3_passAll_119 rfl ?_
  refine r_get 120 f_X3_16 dX3_passAll_120 0 rfl rfl ?_
  refine r_iload_n 123 dX3_passAll_123 rfl ?_
  refine r_iaload 124 dX3_passAll_124 3 rfl (vp_lit (by decide)) (show Int32.toNatClampNeg 8 = 8 by decide) ?_
  refine r_callVD (ws2 := [_, _, _, _, _]) (wr := []) 125 s_X3_213 dX3_passAll_125 (m_pass0 (a := 86) (by decide)) rfl rfl 0 rfl rfl rfl [0, 1, 2, 3, 4] [] rfl rfl rfl rfl (by decide) jRm_ok (Nat.le_of_ble_eq_true rfl) ⟨(Nat.le_of_ble_eq_true rfl), (Nat.le_of_ble_eq_true rfl)⟩ [0, 1, 2, 3, 4] rfl rfl ?_
  refine r_ti (y := imV T 26) (hk 26 (by decide)) ?_
  refine r_iastore (ws2 := [_, _, _, (_, .inl (_, _, .inl _)), _]) 128 dX3_passAll_128 3 rfl (vp_lit (by decide)) (show Int32.toNatClampNeg 8 = 8 by decide) rfl ?_
  refine r_iinc (v := 9) (lv2 := [_, _]) 129 dX3_passAll_129 rfl (by decide) (by decide) rfl rfl ?_
  refine r_goto 132 91 dX3_passAll_132 (by decide) ?_
  refine r_iload_n 91 dX3_passAll_91 rfl ?_
  refine r_bipush (v := 16) 92 dX3_passAll_92 (by decide) ?_
  refine r_icmp_geF 94 135 dX3_passAll_94 (by decide) (by decide) ?_
  refine r_aload_n 97 dX3_passAll_97 rfl ?_
  refine r_get 98 f_X3_13 dX3_passAll_98 0 rfl rfl ?_
  refine r_iload_n 101 dX3_passAll_101 rfl ?_
  refine r_aload_n 102 dX3_passAll_102 rfl ?_
  refine r_aload_n 103 dX3_passAll_103 rfl ?_
  refine r_get 104 f_X3_13 dX3_passAll_104 0 rfl rfl ?_
  refine r_iload_n 107 dX3_passAll_107 rfl ?_
  refine r_iaload 108 dX3_passAll_108 2 rfl (vp_lit (by decide)) (show Int32.toNatClampNeg 9 = 9 by decide) ?_
  refine r_callVD (ws2 := [_, _, _, _, _]) (wr := []) 109 s_X3_213 dX3_passAll_109 (m_pass0 (a := 87) (by decide)) rfl rfl 0 rfl rfl rfl [0, 1, 2, 3, 4] [] rfl rfl rfl rfl (by decide) jRm_ok (Nat.le_of_ble_eq_true rfl) ⟨(Nat.le_of_ble_eq_true rfl), (Nat.le_of_ble_eq_true rfl)⟩ [0, 1, 2, 3, 4] rfl rfl ?_
  refine r_ti (y := imV T 27) (hk 27 (by decide)) ?_
  refine r_iastore (ws2 := [_, _, (_, .inl (_, _, .inl _)), _, _]) 112 dX3_passAll_112 2 rfl (vp_lit (by decide)) (show Int32.toNatClampNeg 9 = 9 by decide) rfl ?_
  refine r_aload_n 113 dX3_passAll_113 rfl ?_
  refine r_get 114 f_X3_16 dX3_passAll_114 0 rfl rfl ?_
  refine r_iload_n 117 dX3_passAll_117 rfl ?_
  refine r_aload_n 118 dX3_passAll_118 rfl ?_
  refine r_aload_n 119 dX3_passAll_119 rfl ?_
  refine r_get 120 f_X3_16 dX3_passAll_120 0 rfl rfl ?_
  refine r_iload_n 123 dX3_passAll_123 rfl ?_
  refine r_iaload 124 dX3_passAll_124 3 rfl (vp_lit (by decide)) (show Int32.toNatClampNeg 9 = 9 by decide) ?_
  refine r_callVD (ws2 := [_, _, _, _, _]) (wr := []) 125 s_X3_213 dX3_passAll_125 (m_pass0 (a := 88) (by decide)) rfl rfl 0 rfl rfl rfl [0, 1, 2, 3, 4] [] rfl rfl rfl rfl (by decide) jRm_ok (Nat.le_of_ble_eq_true rfl) ⟨(Nat.le_of_ble_eq_true rfl), (Nat.le_of_ble_eq_true rfl)⟩ [0, 1, 2, 3, 4] rfl rfl ?_
  refine r_ti (y := imV T 28) (hk 28 (by decide)) ?_
  refine r_iastore (ws2 := [_, _, _, (_, .inl (_, _, .inl _)), _]) 128 dX3_passAll_128 3 rfl (vp_lit (by decide)) (show Int32.toNatClampNeg 9 = 9 by decide) rfl ?_
  refine r_iinc (v := 10) (lv2 := [_, _]) 129 dX3_passAll_129 rfl (by decide) (by decide) rfl rfl ?_
  refine r_goto 132 91 dX3_passAll_132 (by decide) ?_
  refine r_iload_n 91 dX3_passAll_91 rfl ?_
  refine r_bipush (v := 16) 92 dX3_passAll_92 (by decide) ?_
  refine r_icmp_geF 94 135 dX3_passAll_94 (by decide) (by decide) ?_
  refine r_aload_n 97 dX3_passAll_97 rfl ?_
  refine r_get 98 f_X3_13 dX3_passAll_98 0 rfl rfl ?_
  refine r_iload_n 101 dX3_passAll_101 rfl ?_
  refine r_aload_n 102 dX3_passAll_102 rfl ?_
  refine r_aload_n 103 dX3_passAll_103 rfl ?_
  refine r_get 104 f_X3_13 dX3_passAll_104 0 rfl rfl ?_
  refine r_iload_n 107 dX3_passAll_107 rfl ?_
  refine r_iaload 108 dX3_passAll_108 2 rfl (vp_lit (by decide)) (show Int32.toNatClampNeg 10 = 10 by decide) ?_
  refine r_callVD (ws2 := [_, _, _, _, _]) (wr := []) 109 s_X3_213 dX3_passAll_109 (m_pass0 (a := 89) (by decide)) rfl rfl 0 rfl rfl rfl [0, 1, 2, 3, 4] [] rfl rfl rfl rfl (by decide) jRm_ok (Nat.le_of_ble_eq_true rfl) ⟨(Nat.le_of_ble_eq_true rfl), (Nat.le_of_ble_eq_true rfl)⟩ [0, 1, 2, 3, 4] rfl rfl ?_
  refine r_ti (y := imV T 29) (hk 29 (by decide)) ?_
  refine r_iastore (ws2 := [_, _, (_, .inl (_, _, .inl _)), _, _]) 112 dX3_passAll_112 2 rfl (vp_lit (by decide)) (show Int32.toNatClampNeg 10 = 10 by decide) rfl ?_
  refine r_aload_n 113 dX3_passAll_113 rfl ?_
  refine r_get 114 f_X3_16 dX3_passAll_114 0 rfl rfl ?_
  refine r_iload_n 117 dX3_passAll_117 rfl ?_
  refine r_aload_n 118 dX3_passAll_118 rfl ?_
  refine r_aload_n 119 dX3_passAll_119 rfl ?_
  refine r_get 120 f_X3_16 dX3_passAll_120 0 rfl rfl ?_
  refine r_iload_n 123 dX3_passAll_123 rfl ?_
  refine r_iaload 124 dX3_passAll_124 3 rfl (vp_lit (by decide)) (show Int32.toNatClampNeg 10 = 10 by decide) ?_
  refine r_callVD (ws2 := [_, _, _, _, _]) (wr := []) 125 s_X3_213 dX3_passAll_125 (m_pass0 (a := 90) (by decide)) rfl rfl 0 rfl rfl rfl [0, 1, 2, 3, 4] [] rfl rfl rfl rfl (by decide) jRm_ok (Nat.le_of_ble_eq_true rfl) ⟨(Nat.le_of_ble_eq_true rfl), (Nat.le_of_ble_eq_true rfl)⟩ [0, 1, 2, 3, 4] rfl rfl ?_
  refine r_ti (y := imV T 30) (hk 30 (by decide)) ?_
  refine r_iastore (ws2 := [_, _, _, (_, .inl (_, _, .inl _)), _]) 128 dX3_passAll_128 3 rfl (vp_lit (by decide)) (show Int32.toNatClampNeg 10 = 10 by decide) rfl ?_
  refine r_iinc (v := 11) (lv2 := [_, _]) 129 dX3_passAll_129 rfl (by decide) (by decide) rfl rfl ?_
  refine r_goto 132 91 dX3_passAll_132 (by decide) ?_
  refine r_iload_n 91 dX3_passAll_91 rfl ?_
  refine r_bipush (v := 16) 92 dX3_passAll_92 (by decide) ?_
  refine r_icmp_geF 94 135 dX3_passAll_94 (by decide) (by decide) ?_
  refine r_aload_n 97 dX3_passAll_97 rfl ?_
  refine r_get 98 f_X3_13 dX3_passAll_98 0 rfl rfl ?_
  refine r_iload_n 101 dX3_passAll_101 rfl ?_
  refine r_aload_n 102 dX3_passAll_102 rfl ?_
  refine r_aload_n 103 dX3_passAll_103 rfl ?_
  refine r_get 104 f_X3_13 dX3_passAll_104 0 rfl rfl ?_
  refine r_iload_n 107 dX3_passAll_107 rfl ?_
  refine r_iaload 108 dX3_passAll_108 2 rfl (vp_lit (by decide)) (show Int32.toNatClampNeg 11 = 11 by decide) ?_
  refine r_callVD (ws2 := [_, _, _, _, _]) (wr := []) 109 s_X3_213 dX3_passAll_109 (m_pass0 (a := 91) (by decide)) rfl rfl 0 rfl rfl rfl [0, 1, 2, 3, 4] [] rfl rfl rfl rfl (by decide) jRm_ok (Nat.le_of_ble_eq_true rfl) ⟨(Nat.le_of_ble_eq_true rfl), (Nat.le_of_ble_eq_true rfl)⟩ [0, 1, 2, 3, 4] rfl rfl ?_
  refine r_ti (y := imV T 31) (hk 31 (by decide)) ?_
  refine r_iastore (ws2 := [_, _, (_, .inl (_, _, .inl _)), _, _]) 112 dX3_passAll_112 2 rfl (vp_lit (by decide)) (show Int32.toNatClampNeg 11 = 11 by decide) rfl ?_
  refine r_aload_n 113 dX3_passAll_113 rfl ?_
  refine r_get 114 f_X3_16 dX3_passAll_114 0 rfl rfl ?_
  refine r_iload_n 117 dX3_passAll_117 rfl ?_
  refine r_aload_n 118 dX3_passAll_118 rfl ?_
  refine r_aload_n 119 dX3_passAll_119 rfl ?_
  refine r_get 120 f_X3_16 dX3_passAll_120 0 rfl rfl ?_
  refine r_iload_n 123 dX3_passAll_123 rfl ?_
  refine r_iaload 124 dX3_passAll_124 3 rfl (vp_lit (by decide)) (show Int32.toNatClampNeg 11 = 11 by decide) ?_
  refine r_callVD (ws2 := [_, _, _, _, _]) (wr := []) 125 s_X3_213 dX3_passAll_125 (m_pass0 (a := 92) (by decide)) rfl rfl 0 rfl rfl rfl [0, 1, 2, 3, 4] [] rfl rfl rfl rfl (by decide) jRm_ok (Nat.le_of_ble_eq_true rfl) ⟨(Nat.le_of_ble_eq_true rfl), (Nat.le_of_ble_eq_true rfl)⟩ [0, 1, 2, 3, 4] rfl rfl ?_
  refine r_ti (y := imV T 32) (hk 32 (by decide)) ?_
  refine r_iastore (ws2 := [_, _, _, (_, .inl (_, _, .inl _)), _]) 128 dX3_passAll_128 3 rfl (vp_lit (by decide)) (show Int32.toNatClampNeg 11 = 11 by decide) rfl ?_
  refine r_iinc (v := 12) (lv2 := [_, _]) 129 dX3_passAll_129 rfl (by decide) (by decide) rfl rfl ?_
  refine r_goto 132 91 dX3_passAll_132 (by decide) ?_
  refine r_iload_n 91 dX3_passAll_91 rfl ?_
  refine r_bipush (v := 16) 92 dX3_passAll_92 (by decide) ?_
  refine r_icmp_geF 94 135 dX3_passAll_94 (by decide) (by decide) ?_
  refine r_aload_n 97 dX3_passAll_97 rfl ?_
  refine r_get 98 f_X3_13 dX3_passAll_98 0 rfl rfl ?_
  refine r_iload_n 101 dX3_passAll_101 rfl ?_
  refine r_aload_n 102 dX3_passAll_102 rfl ?_
  refine r_aload_n 103 dX3_passAll_103 rfl ?_
  refine r_get 104 f_X3_13 dX3_passAll_104 0 rfl rfl ?_
  refine r_iload_n 107 dX3_passAll_107 rfl ?_
  refine r_iaload 108 dX3_passAll_108 2 rfl (vp_lit (by decide)) (show Int32.toNatClampNeg 12 = 12 by decide) ?_
  refine r_callVD (ws2 := [_, _, _, _, _]) (wr := []) 109 s_X3_213 dX3_passAll_109 (m_pass0 (a := 93) (by decide)) rfl rfl 0 rfl rfl rfl [0, 1, 2, 3, 4] [] rfl rfl rfl rfl (by decide) jRm_ok (Nat.le_of_ble_eq_true rfl) ⟨(Nat.le_of_ble_eq_true rfl), (Nat.le_of_ble_eq_true rfl)⟩ [0, 1, 2, 3, 4] rfl rfl ?_
  refine r_ti (y := imV T 33) (hk 33 (by decide)) ?_
  refine r_iastore (ws2 := [_, _, (_, .inl (_, _, .inl _)), _, _]) 112 dX3_passAll_112 2 rfl (vp_lit (by decide)) (show Int32.toNatClampNeg 12 = 12 by decide) rfl ?_
  refine r_aload_n 113 dX3_passAll_113 rfl ?_
  refine r_get 114 f_X3_16 dX3_passAll_114 0 rfl rfl ?_
  refine r_iload_n 117 dX3_passAll_117 rfl ?_
  refine r_aload_n 118 dX3_passAll_118 rfl ?_
  refine r_aload_n 119 dX3_passAll_119 rfl ?_
  refine r_get 120 f_X3_16 dX3_passAll_120 0 rfl rfl ?_
  refine r_iload_n 123 dX3_passAll_123 rfl ?_
  refine r_iaload 124 dX3_passAll_124 3 rfl (vp_lit (by decide)) (show Int32.toNatClampNeg 12 = 12 by decide) ?_
  refine r_callVD (ws2 := [_, _, _, _, _]) (wr := []) 125 s_X3_213 dX3_passAll_125 (m_pass0 (a := 94) (by decide)) rfl rfl 0 rfl rfl rfl [0, 1, 2, 3, 4] [] rfl rfl rfl rfl (by decide) jRm_ok (Nat.le_of_ble_eq_true rfl) ⟨(Nat.le_of_ble_eq_true rfl), (Nat.le_of_ble_eq_true rfl)⟩ [0, 1, 2, 3, 4] rfl rfl ?_
  refine r_ti (y := imV T 34) (hk 34 (by decide)) ?_
  refine r_iastore (ws2 := [_, _, _, (_, .inl (_, _, .inl _)), _]) 128 dX3_passAll_128 3 rfl (vp_lit (by decide)) (show Int32.toNatClampNeg 12 = 12 by decide) rfl ?_
  refine r_iinc (v := 13) (lv2 := [_, _]) 129 dX3_passAll_129 rfl (by decide) (by decide) rfl rfl ?_
  refine r_goto 132 91 dX3_passAll_132 (by decide) ?_
  refine r_iload_n 91 dX3_passAll_91 rfl ?_
  refine r_bipush (v := 16) 92 dX3_passAll_92 (by decide) ?_
  refine r_icmp_geF 94 135 dX3_passAll_94 (by decide) (by decide) ?_
  refine r_aload_n 97 dX3_passAll_97 rfl ?_
  refine r_get 98 f_X3_13 dX3_passAll_98 0 rfl rfl ?_
  refine r_iload_n 101 dX3_passAll_101 rfl ?_
  refine r_aload_n 102 dX3_passAll_102 rfl ?_
  refine r_aload_n 103 dX3_passAll_103 rfl ?_
  refine r_get 104 f_X3_13 dX3_passAll_104 0 rfl rfl ?_
  refine r_iload_n 107 dX3_passAll_107 rfl ?_
  refine r_iaload 108 dX3_passAll_108 2 rfl (vp_lit (by decide)) (show Int32.toNatClampNeg 13 = 13 by decide) ?_
  refine r_callVD (ws2 := [_, _, _, _, _]) (wr := []) 109 s_X3_213 dX3_passAll_109 (m_pass0 (a := 95) (by decide)) rfl rfl 0 rfl rfl rfl [0, 1, 2, 3, 4] [] rfl rfl rfl rfl (by decide) jRm_ok (Nat.le_of_ble_eq_true rfl) ⟨(Nat.le_of_ble_eq_true rfl), (Nat.le_of_ble_eq_true rfl)⟩ [0, 1, 2, 3, 4] rfl rfl ?_
  refine r_ti (y := imV T 35) (hk 35 (by decide)) ?_
  refine r_iastore (ws2 := [_, _, (_, .inl (_, _, .inl _)), _, _]) 112 dX3_passAll_112 2 rfl (vp_lit (by decide)) (show Int32.toNatClampNeg 13 = 13 by decide) rfl ?_
  refine r_aload_n 113 dX3_passAll_113 rfl ?_
  refine r_get 114 f_X3_16 dX3_passAll_114 0 rfl rfl ?_
  refine r_iload_n 117 dX3_passAll_117 rfl ?_
  refine r_aload_n 118 dX3_passAll_118 rfl ?_
  refine r_aload_n 119 dX3_passAll_119 rfl ?_
  refine r_get 120 f_X3_16 dX3_passAll_120 0 rfl rfl ?_
  refine r_iload_n 123 dX3_passAll_123 rfl ?_
  refine r_iaload 124 dX3_passAll_124 3 rfl (vp_lit (by decide)) (show Int32.toNatClampNeg 13 = 13 by decide) ?_
  refine r_callVD (ws2 := [_, _, _, _, _]) (wr := []) 125 s_X3_213 dX3_passAll_125 (m_pass0 (a := 96) (by decide)) rfl rfl 0 rfl rfl rfl [0, 1, 2, 3, 4] [] rfl rfl rfl rfl (by decide) jRm_ok (Nat.le_of_ble_eq_true rfl) ⟨(Nat.le_of_ble_eq_true rfl), (Nat.le_of_ble_eq_true rfl)⟩ [0, 1, 2, 3, 4] rfl rfl ?_
  refine r_ti (y := imV T 36) (hk 36 (by decide)) ?_
  refine r_iastore (ws2 := [_, _, _, (_, .inl (_, _, .inl _)), _]) 128 dX3_passAll_128 3 rfl (vp_lit (by decide)) (show Int32.toNatClampNeg 13 = 13 by decide) rfl ?_
  refine r_iinc (v := 14) (lv2 := [_, _]) 129 dX3_passAll_129 rfl (by decide) (by decide) rfl rfl ?_
  refine r_goto 132 91 dX3_passAll_132 (by decide) ?_
  refine r_iload_n 91 dX3_passAll_91 rfl ?_
  refine r_bipush (v := 16) 92 dX3_passAll_92 (by decide) ?_
  refine r_icmp_geF 94 135 dX3_passAll_94 (by decide) (by decide) ?_
  refine r_aload_n 97 dX3_passAll_97 rfl ?_
  refine r_get 98 f_X3_13 dX3_passAll_98 0 rfl rfl ?_
  refine r_iload_n 101 dX3_passAll_101 rfl ?_
  refine r_aload_n 102 dX3_passAll_102 rfl ?_
  refine r_aload_n 103 dX3_passAll_103 rfl ?_
  refine r_get 104 f_X3_13 dX3_passAll_104 0 rfl rfl ?_
  refine r_iload_n 107 dX3_passAll_107 rfl ?_
  refine r_iaload 108 dX3_passAll_108 2 rfl (vp_lit (by decide)) (show Int32.toNatClampNeg 14 = 14 by decide) ?_
  refine r_callVD (ws2 := [_, _, _, _, _]) (wr := []) 109 s_X3_213 dX3_passAll_109 (m_pass0 (a := 97) (by decide)) rfl rfl 0 rfl rfl rfl [0, 1, 2, 3, 4] [] rfl rfl rfl rfl (by decide) jRm_ok (Nat.le_of_ble_eq_true rfl) ⟨(Nat.le_of_ble_eq_true rfl), (Nat.le_of_ble_eq_true rfl)⟩ [0, 1, 2, 3, 4] rfl rfl ?_
  refine r_ti (y := imV T 37) (hk 37 (by decide)) ?_
  refine r_iastore (ws2 := [_, _, (_, .inl (_, _, .inl _)), _, _]) 112 dX3_passAll_112 2 rfl (vp_lit (by decide)) (show Int32.toNatClampNeg 14 = 14 by decide) rfl ?_
  refine r_aload_n 113 dX3_passAll_113 rfl ?_
  refine r_get 114 f_X3_16 dX3_passAll_114 0 rfl rfl ?_
  refine r_iload_n 117 dX3_passAll_117 rfl ?_
  refine r_aload_n 118 dX3_passAll_118 rfl ?_
  refine r_aload_n 119 dX3_passAll_119 rfl ?_
  refine r_get 120 f_X3_16 dX3_passAll_120 0 rfl rfl ?_
  refine r_iload_n 123 dX3_passAll_123 rfl ?_
  refine r_iaload 124 dX3_passAll_124 3 rfl (vp_lit (by decide)) (show Int32.toNatClampNeg 14 = 14 by decide) ?_
  refine r_callVD (ws2 := [_, _, _, _, _]) (wr := []) 125 s_X3_213 dX3_passAll_125 (m_pass0 (a := 98) (by decide)) rfl rfl 0 rfl rfl rfl [0, 1, 2, 3, 4] [] rfl rfl rfl rfl (by decide) jRm_ok (Nat.le_of_ble_eq_true rfl) ⟨(Nat.le_of_ble_eq_true rfl), (Nat.le_of_ble_eq_true rfl)⟩ [0, 1, 2, 3, 4] rfl rfl ?_
  refine r_ti (y := imV T 38) (hk 38 (by decide)) ?_
  refine r_iastore (ws2 := [_, _, _, (_, .inl (_, _, .inl _)), _]) 128 dX3_passAll_128 3 rfl (vp_lit (by decide)) (show Int32.toNatClampNeg 14 = 14 by decide) rfl ?_
  refine r_iinc (v := 15) (lv2 := [_, _]) 129 dX3_passAll_129 rfl (by decide) (by decide) rfl rfl ?_
  refine r_goto 132 91 dX3_passAll_132 (by decide) ?_
  refine r_iload_n 91 dX3_passAll_91 rfl ?_
  refine r_bipush (v := 16) 92 dX3_passAll_92 (by decide) ?_
  refine r_icmp_geF 94 135 dX3_passAll_94 (by decide) (by decide) ?_
  refine r_aload_n 97 dX3_passAll_97 rfl ?_
  refine r_get 98 f_X3_13 dX3_passAll_98 0 rfl rfl ?_
  refine r_iload_n 101 dX3_passAll_101 rfl ?_
  refine r_aload_n 102 dX3_passAll_102 rfl ?_
  refine r_aload_n 103 dX3_passAll_103 rfl ?_
  refine r_get 104 f_X3_13 dX3_passAll_104 0 rfl rfl ?_
  refine r_iload_n 107 dX3_passAll_107 rfl ?_
  refine r_iaload 108 dX3_passAll_108 2 rfl (vp_lit (by decide)) (show Int32.toNatClampNeg 15 = 15 by decide) ?_
  refine r_callVD (ws2 := [_, _, _, _, _]) (wr := []) 109 s_X3_213 dX3_passAll_109 (m_pass0 (a := 99) (by decide)) rfl rfl 0 rfl rfl rfl [0, 1, 2, 3, 4] [] rfl rfl rfl rfl (by decide) jRm_ok (Nat.le_of_ble_eq_true rfl) ⟨(Nat.le_of_ble_eq_true rfl), (Nat.le_of_ble_eq_true rfl)⟩ [0, 1, 2, 3, 4] rfl rfl ?_
  refine r_ti (y := imV T 39) (hk 39 (by decide)) ?_
  refine r_iastore (ws2 := [_, _, (_, .inl (_, _, .inl _)), _, _]) 112 dX3_passAll_112 2 rfl (vp_lit (by decide)) (show Int32.toNatClampNeg 15 = 15 by decide) rfl ?_
  refine r_aload_n 113 dX3_passAll_113 rfl ?_
  refine r_get 114 f_X3_16 dX3_passAll_114 0 rfl rfl ?_
  refine r_iload_n 117 dX3_passAll_117 rfl ?_
  refine r_aload_n 118 dX3_passAll_118 rfl ?_
  refine r_aload_n 119 dX3_passAll_119 rfl ?_
  refine r_get 120 f_X3_16 dX3_passAll_120 0 rfl rfl ?_
  refine r_iload_n 123 dX3_passAll_123 rfl ?_
  refine r_iaload 124 dX3_passAll_124 3 rfl (vp_lit (by decide)) (show Int32.toNatClampNeg 15 = 15 by decide) ?_
  refine r_callVD (ws2 := [_, _, _, _, _]) (wr := []) 125 s_X3_213 dX3_passAll_125 (m_pass0 (a := 100) (by decide)) rfl rfl 0 rfl rfl rfl [0, 1, 2, 3, 4] [] rfl rfl rfl rfl (by decide) jRm_ok (Nat.le_of_ble_eq_true rfl) ⟨(Nat.le_of_ble_eq_true rfl), (Nat.le_of_ble_eq_true rfl)⟩ [0, 1, 2, 3, 4] rfl rfl ?_
  refine r_ti (y := imV T 40) (hk 40 (by decide)) ?_
  refine r_iastore (ws2 := [_, _, _, (_, .inl (_, _, .inl _)), _]) 128 dX3_passAll_128 3 rfl (vp_lit (by decide)) (show Int32.toNatClampNeg 15 = 15 by decide) rfl ?_
  refine r_iinc (v := 16) (lv2 := [_, _]) 129 dX3_passAll_129 rfl (by decide) (by decide) rfl rfl ?_
  refine r_goto 132 91 dX3_passAll_132 (by decide) ?_
  refine r_iload_n 91 dX3_passAll_91 rfl ?_
  refine r_bipush (v := 16) 92 dX3_passAll_92 (by decide) ?_
  refine r_icmp_geT 94 135 dX3_passAll_94 (by decide) (by decide) ?_
  refine r_arrI (f2 := fun f => mI (sE T f)) (ws2 := [_, (_, .inl (_, _, .inl _)), _, _, _]) 1 rfl (fun j hj => by
    rcases (show j = 0 ∨ j = 1 ∨ j = 2 ∨ j = 3 by omega) with rfl | rfl | rfl | rfl <;> rfl) rfl ?_
  refine r_arrI (f2 := fun p => fI (sF T p)) (ws2 := [_, _, (_, .inl (_, _, .inl _)), _, _]) 2 rfl (fun j hj => im_16 (fun p => fI (sF T p)) j hj) rfl ?_
  refine r_arrI (f2 := fun p => mI (sW T p)) (ws2 := [_, _, _, (_, .inl (_, _, .inl _)), _]) 3 rfl (fun j hj => im_16 (fun p => mI (sW T p)) j hj) rfl ?_
  exact r_ret 135 dX3_passAll_135 rfl (Nat.le_of_ble_eq_true rfl) (Nat.le_of_ble_eq_true rfl) (jdv rfl)
set_option maxRecDepth 100000 in
set_option maxHeartbeats 400000 in
theorem m_image1 {G : jG} {d : Nat} {m : Nat} {A : Nat → Nat} {S : qS} {pm se th ka iw : Int32} {kp : Nat → Int32} {ik : Nat → Int32} : Ct G yX3_image cX3_image 2 (some .int) (d + 3) 0 0 [.ref m, .int 1] (wX G m A (S) pm se th (ka) iw ++ [(A 12, .inl (G.2.2.1, 120, .inl (kp))), (A 13, .inl (G.2.2.2.2.2.1, 2, .inl (ik)))]) (jD (some (.int 1)) (wX G m A (S) pm se th (nI 101) 1 ++ [(A 12, .inl (G.2.2.1, 120, .inl (kpW S 60 kp 41))), (A 13, .inl (G.2.2.2.2.2.1, 2, .inl (upd ik 1 1)))])) := by
  refine ct_of (by decide) (Nat.le_of_ble_eq_true rfl) (own := RX3) (nm := "image") rfl rfl (lv := [some (.ref m), some (.int 1)]) rfl ?_
  refine r_iload_n 0 dX3_image_0 rfl ?_
  refine r_i2l 1 dX3_image_1 ?_
  refine r_lconst (v := 0) 2 dX3_image_2 (by decide) ?_
  refine r_lconst (v := 1) 3 dX3_image_3 (by decide) ?_
  refine r_sta (st2 := [.long (1 : Int32).toInt64, .long (0 : Int32).toInt64, .long (1 : Int32).toInt64]) rfl ?_
  refine r_callSD (ws2 := [_, _, _, _, _, _]) (wr := [_, _, _, _, _, _]) 4 s_X3_79 dX3_image_4 (m_in) rfl rfl [] [0, 1, 2, 3, 4, 5] rfl rfl rfl rfl (by decide) jRm_ok (Nat.le_of_ble_eq_true rfl) ⟨(Nat.le_of_ble_eq_true rfl), (Nat.le_of_ble_eq_true rfl)⟩ [0, 1, 2, 3, 4, 5] rfl rfl ?_
  refine r_if_neB 7 13 dX3_image_7 (by decide) (fun c_7 => ?_) (fun c_7 => ?_)
  · -- 7T
    refine r_aload_n 13 dX3_image_13 rfl ?_
    refine r_bipush (v := 60) 14 dX3_image_14 (by decide) ?_
    refine r_iload_n 16 dX3_image_16 rfl ?_
    refine r_imul 17 dX3_image_17 ?_
    refine r_ti (y := nI 60) (by decide) ?_
    refine r_put (ws2 := [(_, .inr (_, [_, _, _, _, _, _, _, _, _, _, _, _, _, _, _, _, _, _, _, _, _, _, _, _])), _, _, _, _, _]) 18 p_X3_210 dX3_image_18 0 rfl rfl rfl (Nat.le_of_ble_eq_true rfl) rfl ?_
    refine r_aload_n 21 dX3_image_21 rfl ?_
    refine r_iconst (v := 1) 22 dX3_image_22 (by decide) ?_
    refine r_put (ws2 := [(_, .inr (_, [_, _, _, _, _, _, _, _, _, _, _, _, _, _, _, _, _, _, _, _, _, _, _, _])), _, _, _, _, _]) 23 p_X3_206 dX3_image_23 0 rfl rfl rfl (Nat.le_of_ble_eq_true rfl) rfl ?_
    refine r_aload_n 26 dX3_image_26 rfl ?_
    refine r_callVD (ws2 := [_, _, _, _, _, _]) (wr := [_]) 27 s_X3_216 dX3_image_27 (m_passW1) rfl rfl 0 rfl rfl rfl [0, 1, 2, 3, 4] [5] rfl rfl rfl rfl (by decide) jRm_ok (Nat.le_of_ble_eq_true rfl) ⟨(Nat.le_of_ble_eq_true rfl), (Nat.le_of_ble_eq_true rfl)⟩ [1, 2, 3, 4, 5, 0] rfl rfl ?_
    refine r_aload_n 30 dX3_image_30 rfl ?_
    refine r_get 31 f_X3_51 dX3_image_31 0 rfl rfl ?_
    refine r_iload_n 34 dX3_image_34 rfl ?_
    refine r_iconst (v := 1) 35 dX3_image_35 (by decide) ?_
    refine r_bastore (ws2 := [_, _, _, _, _, (_, .inl (_, _, .inl _))]) 36 dX3_image_36 5 rfl (vp_lit (by decide)) (show Int32.toNatClampNeg 1 = 1 by decide) rfl ?_
    refine r_arrI (f2 := upd ik 1 1) (ws2 := [_, _, _, _, _, (_, .inl (_, _, .inl _))]) 5 rfl (fun j _ => rfl) rfl ?_
    refine r_iconst (v := 1) 37 dX3_image_37 (by decide) ?_
    exact r_iret 38 dX3_image_38 rfl rfl (Nat.le_of_ble_eq_true rfl) (Nat.le_of_ble_eq_true rfl) (jd rfl)
  · -- 7F
    exact absurd (by decide) c_7
set_option maxRecDepth 100000 in
set_option maxHeartbeats 400000 in
theorem m_restore1 {G : jG} {d : Nat} {m : Nat} {A : Nat → Nat} {S T : qS} {pm se th ka iw : Int32} {kp : Nat → Int32} {ik : Nat → Int32} (hik : ik 1 = 1) (hk : ∀ k, k < 41 → kp (60 + k) = imV T k) : Ct G yX3_restore cX3_restore 2 (some .int) (d + 3) 0 0 [.ref m, .int 1] (wX G m A (S) pm se th (ka) iw ++ [(A 12, .inl (G.2.2.1, 120, .inl (kp))), (A 13, .inl (G.2.2.2.2.2.1, 2, .inl (ik)))]) (jD (some (.int 1)) (wX G m A (T) pm se th (nI 101) 0 ++ [(A 12, .inl (G.2.2.1, 120, .inl (kp))), (A 13, .inl (G.2.2.2.2.2.1, 2, .inl (ik)))])) := by
  refine ct_of (by decide) (Nat.le_of_ble_eq_true rfl) (own := RX3) (nm := "restore") rfl rfl (lv := [some (.ref m), some (.int 1)]) rfl ?_
  refine r_iload_n 0 dX3_restore_0 rfl ?_
  refine r_i2l 1 dX3_restore_1 ?_
  refine r_lconst (v := 0) 2 dX3_restore_2 (by decide) ?_
  refine r_lconst (v := 1) 3 dX3_restore_3 (by decide) ?_
  refine r_sta (st2 := [.long (1 : Int32).toInt64, .long (0 : Int32).toInt64, .long (1 : Int32).toInt64]) rfl ?_
  refine r_callSD (ws2 := [_, _, _, _, _, _]) (wr := [_, _, _, _, _, _]) 4 s_X3_79 dX3_restore_4 (m_in) rfl rfl [] [0, 1, 2, 3, 4, 5] rfl rfl rfl rfl (by decide) jRm_ok (Nat.le_of_ble_eq_true rfl) ⟨(Nat.le_of_ble_eq_true rfl), (Nat.le_of_ble_eq_true rfl)⟩ [0, 1, 2, 3, 4, 5] rfl rfl ?_
  refine r_if_neB 7 13 dX3_restore_7 (by decide) (fun c_7 => ?_) (fun c_7 => ?_)
  · -- 7T
    refine r_aload_n 13 dX3_restore_13 rfl ?_
    refine r_get 14 f_X3_51 dX3_restore_14 0 rfl rfl ?_
    refine r_iload_n 17 dX3_restore_17 rfl ?_
    refine r_baload 18 dX3_restore_18 5 rfl (vp_lit (by decide)) (show Int32.toNatClampNeg 1 = 1 by decide) ?_
    refine r_ti (y := 1) (hik) ?_
    refine r_if_neT 19 25 dX3_restore_19 (by decide) (by decide) ?_
    refine r_aload_n 25 dX3_restore_25 rfl ?_
    refine r_bipush (v := 60) 26 dX3_restore_26 (by decide) ?_
    refine r_iload_n 28 dX3_restore_28 rfl ?_
    refine r_imul 29 dX3_restore_29 ?_
    refine r_ti (y := nI 60) (by decide) ?_
    refine r_put (ws2 := [(_, .inr (_, [_, _, _, _, _, _, _, _, _, _, _, _, _, _, _, _, _, _, _, _, _, _, _, _])), _, _, _, _, _]) 30 p_X3_210 dX3_restore_30 0 rfl rfl rfl (Nat.le_of_ble_eq_true rfl) rfl ?_
    refine r_aload_n 33 dX3_restore_33 rfl ?_
    refine r_iconst (v := 0) 34 dX3_restore_34 (by decide) ?_
    refine r_put (ws2 := [(_, .inr (_, [_, _, _, _, _, _, _, _, _, _, _, _, _, _, _, _, _, _, _, _, _, _, _, _])), _, _, _, _, _]) 35 p_X3_206 dX3_restore_35 0 rfl rfl rfl (Nat.le_of_ble_eq_true rfl) rfl ?_
    refine r_aload_n 38 dX3_restore_38 rfl ?_
    refine r_callVD (ws2 := [_, _, _, _, _, _]) (wr := [_]) 39 s_X3_216 dX3_restore_39 (m_passR1 (T := T) hk) rfl rfl 0 rfl rfl rfl [0, 1, 2, 3, 4] [5] rfl rfl rfl rfl (by decide) jRm_ok (Nat.le_of_ble_eq_true rfl) ⟨(Nat.le_of_ble_eq_true rfl), (Nat.le_of_ble_eq_true rfl)⟩ [1, 2, 3, 4, 5, 0] rfl rfl ?_
    refine r_iconst (v := 1) 42 dX3_restore_42 (by decide) ?_
    exact r_iret 43 dX3_restore_43 rfl rfl (Nat.le_of_ble_eq_true rfl) (Nat.le_of_ble_eq_true rfl) (jd rfl)
  · -- 7F
    exact absurd (by decide) c_7
set_option maxRecDepth 100000 in
set_option maxHeartbeats 400000 in
theorem m_restoreS1 {G : jG} {d : Nat} {m : Nat} {A : Nat → Nat} {S : qS} {pm se th ka iw : Int32} {kp : Nat → Int32} {ik : Nat → Int32} (hik : ik 1 = 0) : Ct G yX3_restore cX3_restore 2 (some .int) (d + 3) 0 0 [.ref m, .int 1] (wX G m A (S) pm se th (ka) iw ++ [(A 12, .inl (G.2.2.1, 120, .inl (kp))), (A 13, .inl (G.2.2.2.2.2.1, 2, .inl (ik)))]) (jD (some (.int (-3))) (wX G m A (S) pm se th (ka) iw ++ [(A 12, .inl (G.2.2.1, 120, .inl (kp))), (A 13, .inl (G.2.2.2.2.2.1, 2, .inl (ik)))])) := by
  refine ct_of (by decide) (Nat.le_of_ble_eq_true rfl) (own := RX3) (nm := "restore") rfl rfl (lv := [some (.ref m), some (.int 1)]) rfl ?_
  refine r_iload_n 0 dX3_restore_0 rfl ?_
  refine r_i2l 1 dX3_restore_1 ?_
  refine r_lconst (v := 0) 2 dX3_restore_2 (by decide) ?_
  refine r_lconst (v := 1) 3 dX3_restore_3 (by decide) ?_
  refine r_sta (st2 := [.long (1 : Int32).toInt64, .long (0 : Int32).toInt64, .long (1 : Int32).toInt64]) rfl ?_
  refine r_callSD (ws2 := [_, _, _, _, _, _]) (wr := [_, _, _, _, _, _]) 4 s_X3_79 dX3_restore_4 (m_in) rfl rfl [] [0, 1, 2, 3, 4, 5] rfl rfl rfl rfl (by decide) jRm_ok (Nat.le_of_ble_eq_true rfl) ⟨(Nat.le_of_ble_eq_true rfl), (Nat.le_of_ble_eq_true rfl)⟩ [0, 1, 2, 3, 4, 5] rfl rfl ?_
  refine r_if_neB 7 13 dX3_restore_7 (by decide) (fun c_7 => ?_) (fun c_7 => ?_)
  · -- 7T
    refine r_aload_n 13 dX3_restore_13 rfl ?_
    refine r_get 14 f_X3_51 dX3_restore_14 0 rfl rfl ?_
    refine r_iload_n 17 dX3_restore_17 rfl ?_
    refine r_baload 18 dX3_restore_18 5 rfl (vp_lit (by decide)) (show Int32.toNatClampNeg 1 = 1 by decide) ?_
    refine r_ti (y := 0) (hik) ?_
    refine r_if_neF 19 25 dX3_restore_19 (by decide) (by decide) ?_
    refine r_bipush (v := -3) 22 dX3_restore_22 (by decide) ?_
    exact r_iret 24 dX3_restore_24 rfl rfl (Nat.le_of_ble_eq_true rfl) (Nat.le_of_ble_eq_true rfl) (jd rfl)
  · -- 7F
    exact absurd (by decide) c_7
set_option maxRecDepth 100000 in
set_option maxHeartbeats 400000 in
theorem m_imageO {G : jG} {d : Nat} {m : Nat} {A : Nat → Nat} {S : qS} {pm se th ka iw : Int32} {x : Int32} (h : ¬ (0 ≤ x ∧ x ≤ 1)) : Ct G yX3_image cX3_image 2 (some .int) (d + 3) 0 0 [.ref m, .int x] (wX G m A S pm se th ka iw) (jD (some (.int (-2))) (wX G m A S pm se th ka iw)) := by
  refine ct_of (by decide) (Nat.le_of_ble_eq_true rfl) (own := RX3) (nm := "image") rfl rfl (lv := [some (.ref m), some (.int x)]) rfl ?_
  refine r_iload_n 0 dX3_image_0 rfl ?_
  refine r_i2l 1 dX3_image_1 ?_
  refine r_lconst (v := 0) 2 dX3_image_2 (by decide) ?_
  refine r_lconst (v := 1) 3 dX3_image_3 (by decide) ?_
  refine r_sta (st2 := [.long (1 : Int32).toInt64, .long (0 : Int32).toInt64, .long x.toInt64]) rfl ?_
  refine r_callSD (ws2 := [_, _, _, _]) (wr := [_, _, _, _]) 4 s_X3_79 dX3_image_4 (m_in) rfl rfl [] [0, 1, 2, 3] rfl rfl rfl rfl (by decide) jRm_ok (Nat.le_of_ble_eq_true rfl) ⟨(Nat.le_of_ble_eq_true rfl), (Nat.le_of_ble_eq_true rfl)⟩ [0, 1, 2, 3] rfl rfl ?_
  refine r_if_neB 7 13 dX3_image_7 (by decide) (fun c_7 => ?_) (fun c_7 => ?_)
  · -- 7T
    exact absurd c_7 h
  · -- 7F
    refine r_bipush (v := -2) 10 dX3_image_10 (by decide) ?_
    exact r_iret 12 dX3_image_12 rfl rfl (Nat.le_of_ble_eq_true rfl) (Nat.le_of_ble_eq_true rfl) (jd rfl)
set_option maxRecDepth 100000 in
set_option maxHeartbeats 400000 in
theorem m_restoreO {G : jG} {d : Nat} {m : Nat} {A : Nat → Nat} {S : qS} {pm se th ka iw : Int32} {x : Int32} (h : ¬ (0 ≤ x ∧ x ≤ 1)) : Ct G yX3_restore cX3_restore 2 (some .int) (d + 3) 0 0 [.ref m, .int x] (wX G m A S pm se th ka iw) (jD (some (.int (-2))) (wX G m A S pm se th ka iw)) := by
  refine ct_of (by decide) (Nat.le_of_ble_eq_true rfl) (own := RX3) (nm := "restore") rfl rfl (lv := [some (.ref m), some (.int x)]) rfl ?_
  refine r_iload_n 0 dX3_restore_0 rfl ?_
  refine r_i2l 1 dX3_restore_1 ?_
  refine r_lconst (v := 0) 2 dX3_restore_2 (by decide) ?_
  refine r_lconst (v := 1) 3 dX3_restore_3 (by decide) ?_
  refine r_sta (st2 := [.long (1 : Int32).toInt64, .long (0 : Int32).toInt64, .long x.toInt64]) rfl ?_
  refine r_callSD (ws2 := [_, _, _, _]) (wr := [_, _, _, _]) 4 s_X3_79 dX3_restore_4 (m_in) rfl rfl [] [0, 1, 2, 3] rfl rfl rfl rfl (by decide) jRm_ok (Nat.le_of_ble_eq_true rfl) ⟨(Nat.le_of_ble_eq_true rfl), (Nat.le_of_ble_eq_true rfl)⟩ [0, 1, 2, 3] rfl rfl ?_
  refine r_if_neB 7 13 dX3_restore_7 (by decide) (fun c_7 => ?_) (fun c_7 => ?_)
  · -- 7T
    exact absurd c_7 h
  · -- 7F
    refine r_bipush (v := -2) 10 dX3_restore_10 (by decide) ?_
    exact r_iret 12 dX3_restore_12 rfl rfl (Nat.le_of_ble_eq_true rfl) (Nat.le_of_ble_eq_true rfl) (jd rfl)
