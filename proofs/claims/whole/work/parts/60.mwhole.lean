theorem wi_u {f0 : Nat → Int32} {k : Nat} (j : Nat) : upd (fun i => if i < k then nI i else f0 i) k (nI k) j = if j < k + 1 then nI j else f0 j := by
  unfold upd
  split
  · next e => rw [e, if_pos (Nat.lt_succ_self k)]
  · next e =>
    show (if j < k then nI j else f0 j) = _
    by_cases q : j < k
    · rw [if_pos q, if_pos (by omega)]
    · rw [if_neg q, if_neg (by omega)]
set_option maxRecDepth 100000 in
set_option maxHeartbeats 400000 in
theorem lp_mwI {G : jG} {d : Nat} {m : Nat} {A : Nat → Nat} {S : qS} {pm se th ka iw : Int32} (hS : wf S) {f0 g : Nat → Int32} {i : Int32} : ∀ (n : Nat) (k : Nat), 17 ≤ k + n → k ≤ 16 → (Rn G RX3 "whole" cX3_whole 4 (some .int) (jR (d + 4) 0 0) jX0 (jE G (fun v w => v = some (.int (mwC S g i)) ∧ ∃ (se2 th2 : Int32) (f2 g2 : Nat → Int32), w = (wX G m A S pm se2 th2 ka iw ++ [(A 4, .inl (G.2.2.1, 16, .inl (f2))), (A 5, .inl (G.2.2.1, 16, .inl (g2)))])) 0 0) 0 0 39 [some (.ref m), some (.int i), some (.int (nI (cnt (sqB S) 16))), some (.int (nI 16))] [] (wX G m A S pm 0 0 ka iw ++ [(A 4, .inl (G.2.2.1, 16, .inl (fun j => if j < 16 then nI j else f0 j))), (A 5, .inl (G.2.2.1, 16, .inl (g)))])) → Rn G RX3 "whole" cX3_whole 4 (some .int) (jR (d + 4) 0 0) jX0 (jE G (fun v w => v = some (.int (mwC S g i)) ∧ ∃ (se2 th2 : Int32) (f2 g2 : Nat → Int32), w = (wX G m A S pm se2 th2 ka iw ++ [(A 4, .inl (G.2.2.1, 16, .inl (f2))), (A 5, .inl (G.2.2.1, 16, .inl (g2)))])) 0 0) 0 0 20 [some (.ref m), some (.int i), some (.int (nI (cnt (sqB S) 16))), some (.int (nI k))] [] (wX G m A S pm 0 0 ka iw ++ [(A 4, .inl (G.2.2.1, 16, .inl (fun j => if j < k then nI j else f0 j))), (A 5, .inl (G.2.2.1, 16, .inl (g)))]) := by
  intro n
  induction n with
  | zero => intros; omega
  | succ n ih =>
    intro k h1 h2 K
    refine r_iload_n 20 dX3_whole_20 rfl ?_
    refine r_bipush (v := 16) 21 dX3_whole_21 (by decide) ?_
    refine r_ti (y := nI 16) (rfl) ?_
    refine r_icmp_geN (b := 16) 23 39 dX3_whole_23 (by decide) (by omega) (by decide) (fun c_23 => ?_) (fun c_23 => ?_)
    · -- 23T
      obtain rfl : k = 16 := by omega
      exact K
    · -- 23F
      refine r_aload_n 26 dX3_whole_26 rfl ?_
      refine r_get 27 f_X3_22 dX3_whole_27 0 rfl rfl ?_
      refine r_iload_n 30 dX3_whole_30 rfl ?_
      refine r_iload_n 31 dX3_whole_31 rfl ?_
      refine r_iastore (ws2 := [_, _, _, _, (_, .inl (_, _, .inl _)), _]) 32 dX3_whole_32 4 rfl (vp_in_nI (by omega) (by decide)) (nI_clamp (by omega)) rfl ?_
      refine r_arrI (f2 := fun j => if j < k + 1 then nI j else f0 j) (ws2 := (wX G m A S pm 0 0 ka iw ++ [(A 4, .inl (G.2.2.1, 16, .inl (fun j => if j < (k + 1) then nI j else f0 j))), (A 5, .inl (G.2.2.1, 16, .inl (g)))])) 4 rfl (fun j _ => wi_u j) rfl ?_
      refine r_iinc (lv2 := [_, _, _, _]) 33 dX3_whole_33 rfl (jinc) (by decide) rfl rfl ?_
      refine r_goto 36 20 dX3_whole_36 (by decide) ?_
      exact ih (k + 1) (by omega) (by omega) K
set_option maxRecDepth 100000 in
set_option maxHeartbeats 400000 in
theorem lp_mwW {G : jG} {d : Nat} {m : Nat} {A : Nat → Nat} {S : qS} {pm se th ka iw : Int32} (hS : wf S) {f0 g : Nat → Int32} {i : Int32} : ∀ (n : Nat) (k : Nat), 17 ≤ k + n → (wk S g k).2.2.1 = k → (Rn G RX3 "whole" cX3_whole 4 (some .int) (jR (d + 4) 0 0) jX0 (jE G (fun v w => v = some (.int (mwC S g i)) ∧ ∃ (se2 th2 : Int32) (f2 g2 : Nat → Int32), w = (wX G m A S pm se2 th2 ka iw ++ [(A 4, .inl (G.2.2.1, 16, .inl (f2))), (A 5, .inl (G.2.2.1, 16, .inl (g2)))])) 0 0) 0 0 53 [some (.ref m), some (.int i), some (.int (nI (cnt (sqB S) 16))), some (.int (0))] [] (wX G m A S pm (nI (wk S g 16).2.2.1) (nI (wk S g 16).2.2.2) ka iw ++ [(A 4, .inl (G.2.2.1, 16, .inl (fun j => nI ((wk S g 16).1 j)))), (A 5, .inl (G.2.2.1, 16, .inl ((wk S g 16).2.1)))])) → Rn G RX3 "whole" cX3_whole 4 (some .int) (jR (d + 4) 0 0) jX0 (jE G (fun v w => v = some (.int (mwC S g i)) ∧ ∃ (se2 th2 : Int32) (f2 g2 : Nat → Int32), w = (wX G m A S pm se2 th2 ka iw ++ [(A 4, .inl (G.2.2.1, 16, .inl (f2))), (A 5, .inl (G.2.2.1, 16, .inl (g2)))])) 0 0) 0 0 41 [some (.ref m), some (.int i), some (.int (nI (cnt (sqB S) 16))), some (.int (1))] [] (wX G m A S pm (nI (wk S g k).2.2.1) (nI (wk S g k).2.2.2) ka iw ++ [(A 4, .inl (G.2.2.1, 16, .inl (fun j => nI ((wk S g k).1 j)))), (A 5, .inl (G.2.2.1, 16, .inl ((wk S g k).2.1)))]) := by
  intro n
  induction n with
  | zero =>
    intro k h1 hk K
    have e1 := wk_s15 hS (g := g) k
    have e2 := hS.p16
    omega
  | succ n ih =>
    intro k h1 hk K
    have hk15 := wk_s15 hS (g := g) k
    have hP16 := hS.p16
    refine r_iload_n 41 dX3_whole_41 rfl ?_
    refine r_if_eqF 42 53 dX3_whole_42 (by decide) (by decide) ?_
    refine r_aload_n 45 dX3_whole_45 rfl ?_
    refine r_callVD (ws2 := [_, _, _, _, _, _]) (wr := []) 46 s_X3_158 dX3_whole_46 (m_take hS (L := (wk S g k).1) (g := (wk S g k).2.1) (s := (wk S g k).2.2.1) (h := (wk S g k).2.2.2) (wk_I hS k).1 (by omega)) rfl rfl 0 rfl rfl rfl [0, 1, 2, 3, 4, 5] [] rfl rfl rfl rfl (by decide) jRm_ok (Nat.le_of_ble_eq_true rfl) ⟨(Nat.le_of_ble_eq_true rfl), (Nat.le_of_ble_eq_true rfl)⟩ [0, 1, 2, 3, 4, 5] rfl rfl ?_
    refine r_istore_n (lv2 := [_, _, _, _]) 49 dX3_whole_49 (by decide) rfl rfl ?_
    refine r_goto 50 41 dX3_whole_50 (by decide) ?_
    by_cases hb : (tO S (wk S g k).1 (sP S)).1 < 256
    · rw [bP_t hb]
      have hs1 := wk_suc hb
      exact ih (k + 1) (by omega) (by rw [hs1, hk]) K
    · rw [bP_f hb]
      have hfix : wk S g (k + 1) = wk S g 16 := by
        have e1 := wk_fix hb (16 - k)
        rw [show k + (16 - k) = 16 by omega] at e1
        rw [e1, wk_fix hb 1]
      refine r_iload_n 41 dX3_whole_41 rfl ?_
      refine r_if_eqT 42 53 dX3_whole_42 (by decide) (by decide) ?_
      rw [← hfix] at K
      exact K
set_option maxRecDepth 100000 in
set_option maxHeartbeats 400000 in
theorem m_whole {G : jG} {d : Nat} {m : Nat} {A : Nat → Nat} {S : qS} {pm se th ka iw : Int32} (hS : wf S) {f0 g : Nat → Int32} {i : Int32} : Ct G yX3_whole cX3_whole 4 (some .int) (d + 4) 0 0 [.ref m, .int i] (wX G m A S pm se th ka iw ++ [(A 4, .inl (G.2.2.1, 16, .inl (f0))), (A 5, .inl (G.2.2.1, 16, .inl (g)))]) (fun v w => v = some (.int (mwC S g i)) ∧ ∃ (se2 th2 : Int32) (f2 g2 : Nat → Int32), w = (wX G m A S pm se2 th2 ka iw ++ [(A 4, .inl (G.2.2.1, 16, .inl (f2))), (A 5, .inl (G.2.2.1, 16, .inl (g2)))])) := by
  refine ct_of (by decide) (Nat.le_of_ble_eq_true rfl) (own := RX3) (nm := "whole") rfl rfl (lv := [some (.ref m), some (.int i), none, none]) rfl ?_
  have hP16 := hS.p16
  have hMc := cnt_le (sqB S) 16
  have hs15 := wk_s15 hS (g := g) 16
  have hh := (wk_I hS (g := g) 16).2.2.2
  refine r_aload_n 0 dX3_whole_0 rfl ?_
  refine r_callVD (ws2 := [_, _, _, _, _, _]) (wr := [_, _]) 1 s_X3_101 dX3_whole_1 (m_squares hS) rfl rfl 0 rfl rfl rfl [0, 1, 2, 3] [4, 5] rfl rfl rfl rfl (by decide) jRm_ok (Nat.le_of_ble_eq_true rfl) ⟨(Nat.le_of_ble_eq_true rfl), (Nat.le_of_ble_eq_true rfl)⟩ [2, 3, 4, 5, 0, 1] rfl rfl ?_
  refine r_callSD (ws2 := [_, _, _, _, _, _]) (wr := [_, _, _, _, _, _]) 4 s_X3_104 dX3_whole_4 (m_ones) rfl rfl [] [0, 1, 2, 3, 4, 5] rfl rfl rfl rfl (by decide) jRm_ok (Nat.le_of_ble_eq_true rfl) ⟨(Nat.le_of_ble_eq_true rfl), (Nat.le_of_ble_eq_true rfl)⟩ [0, 1, 2, 3, 4, 5] rfl rfl ?_
  refine r_istore_n (lv2 := [_, _, _, none]) 7 dX3_whole_7 (by decide) rfl rfl ?_
  refine r_aload_n 8 dX3_whole_8 rfl ?_
  refine r_iconst (v := 0) 9 dX3_whole_9 (by decide) ?_
  refine r_put (ws2 := [(_, .inr (_, [_, _, _, _, _, _, _, _, _, _, _, _, _, _, _, _, _, _, _, _, _, _, _, _])), _, _, _, _, _]) 10 p_X3_152 dX3_whole_10 0 rfl rfl rfl (Nat.le_of_ble_eq_true rfl) rfl ?_
  refine r_aload_n 13 dX3_whole_13 rfl ?_
  refine r_iconst (v := 0) 14 dX3_whole_14 (by decide) ?_
  refine r_put (ws2 := [(_, .inr (_, [_, _, _, _, _, _, _, _, _, _, _, _, _, _, _, _, _, _, _, _, _, _, _, _])), _, _, _, _, _]) 15 p_X3_155 dX3_whole_15 0 rfl rfl rfl (Nat.le_of_ble_eq_true rfl) rfl ?_
  refine r_iconst (v := 0) 18 dX3_whole_18 (by decide) ?_
  refine r_ti (y := nI 0) (nI_0.symm) ?_
  refine r_istore_n (lv2 := [_, _, _, _]) 19 dX3_whole_19 (by decide) rfl rfl ?_
  refine r_ws (ws2 := (wX G m A S pm 0 0 ka iw ++ [(A 4, .inl (G.2.2.1, 16, .inl (fun j => if j < 0 then nI j else f0 j))), (A 5, .inl (G.2.2.1, 16, .inl (g)))])) (by have e : f0 = (fun j => if j < 0 then nI j else f0 j) := funext (fun j => by rw [if_neg (Nat.not_lt_zero j)]); exact congrArg (fun z => (wX G m A S pm 0 0 ka iw ++ [(A 4, .inl (G.2.2.1, 16, .inl (z))), (A 5, .inl (G.2.2.1, 16, .inl (g)))])) e) ?_
  refine lp_mwI (se := se) (th := th) hS 17 0 (by omega) (by omega) ?_
  refine r_iconst (v := 1) 39 dX3_whole_39 (by decide) ?_
  refine r_istore_n (lv2 := [_, _, _, _]) 40 dX3_whole_40 (by decide) rfl rfl ?_
  refine r_arrI (f2 := fun j => nI ((wk S g 0).1 j)) (ws2 := (wX G m A S pm (nI (wk S g 0).2.2.1) (nI (wk S g 0).2.2.2) ka iw ++ [(A 4, .inl (G.2.2.1, 16, .inl (fun j => nI ((wk S g 0).1 j)))), (A 5, .inl (G.2.2.1, 16, .inl ((wk S g 0).2.1)))])) 4 rfl (fun j hj => by show (if j < 16 then nI j else f0 j) = nI (j % 16); rw [if_pos hj, Nat.mod_eq_of_lt hj]) rfl ?_
  refine lp_mwW (se := se) (th := th) (f0 := f0) hS 17 0 (by omega) rfl ?_
  refine r_iload_n 53 dX3_whole_53 rfl ?_
  refine r_if_eq 54 67 dX3_whole_54 (by decide) (fun c_54 => ?_) (fun c_54 => ?_)
  · -- 54T
    have hM : cnt (sqB S) 16 = 0 := (nI_z (by omega)).mp c_54
    have hfin : mwC S g i = -6 := if_pos (Or.inl hM)
    refine r_bipush (v := -6) 67 dX3_whole_67 (by decide) ?_
    exact r_iret 69 dX3_whole_69 rfl rfl (Nat.le_of_ble_eq_true rfl) (Nat.le_of_ble_eq_true rfl) (⟨by rw [hfin] <;> rfl, _, _, _, _, rfl⟩)
  · -- 54F
    have hM : ¬ cnt (sqB S) 16 = 0 := fun z => c_54 (by rw [z]; rfl)
    refine r_aload_n 57 dX3_whole_57 rfl ?_
    refine r_get 58 f_X3_152 dX3_whole_58 0 rfl rfl ?_
    refine r_iload_n 61 dX3_whole_61 rfl ?_
    refine r_iconst (v := 1) 62 dX3_whole_62 (by decide) ?_
    refine r_isub 63 dX3_whole_63 ?_
    refine r_ti (y := nI (cnt (sqB S) 16 - 1)) (pk_sub (b := 1) (by omega)) ?_
    refine r_icmp_geN 64 70 dX3_whole_64 (by decide) (by omega) (by omega) (fun c_64 => ?_) (fun c_64 => ?_)
    · -- 64T
      have hno : ¬ (cnt (sqB S) 16 = 0 ∨ (wk S g 16).2.2.1 < cnt (sqB S) 16 - 1) := fun z => by omega
      refine r_iload_n 70 dX3_whole_70 rfl ?_
      refine r_iconst (v := -1) 71 dX3_whole_71 (by decide) ?_
      refine r_icmp_ne 72 82 dX3_whole_72 (by decide) (fun c_72 => ?_) (fun c_72 => ?_)
      · -- 72T
        have hi1 := c_72
        refine r_iload_n 82 dX3_whole_82 rfl ?_
        refine r_i2l 83 dX3_whole_83 ?_
        refine r_lconst (v := 0) 84 dX3_whole_84 (by decide) ?_
        refine r_aload_n 85 dX3_whole_85 rfl ?_
        refine r_get 86 f_X3_152 dX3_whole_86 0 rfl rfl ?_
        refine r_iconst (v := 1) 89 dX3_whole_89 (by decide) ?_
        refine r_isub 90 dX3_whole_90 ?_
        refine r_i2l 91 dX3_whole_91 ?_
        refine r_sta (st2 := [.long (nI (wk S g 16).2.2.1 - 1).toInt64, .long (0 : Int32).toInt64, .long i.toInt64]) rfl ?_
        refine r_callSD (ws2 := [_, _, _, _, _, _]) (wr := [_, _, _, _, _, _]) 92 s_X3_79 dX3_whole_92 (m_in) rfl rfl [] [0, 1, 2, 3, 4, 5] rfl rfl rfl rfl (by decide) jRm_ok (Nat.le_of_ble_eq_true rfl) ⟨(Nat.le_of_ble_eq_true rfl), (Nat.le_of_ble_eq_true rfl)⟩ [0, 1, 2, 3, 4, 5] rfl rfl ?_
        refine r_if_eqB 95 107 dX3_whole_95 (by decide) (fun c_95 => ?_) (fun c_95 => ?_)
        · -- 95T
          have hfin : mwC S g i = -6 := by
            unfold mwC
            rw [if_neg hno, if_neg hi1, if_neg c_95]
          refine r_bipush (v := -6) 107 dX3_whole_107 (by decide) ?_
          exact r_iret 109 dX3_whole_109 rfl rfl (Nat.le_of_ble_eq_true rfl) (Nat.le_of_ble_eq_true rfl) (⟨by rw [hfin] <;> rfl, _, _, _, _, rfl⟩)
        · -- 95F
          have hfin : mwC S g i = (wk S g 16).2.1 i.toNatClampNeg := by
            unfold mwC
            rw [if_neg hno, if_neg hi1, if_pos c_95]
          obtain ⟨j, hj, he⟩ := in_s (by omega) c_95
          have hvp : vp_in i 16 := by rw [he]; exact vp_in_nI (by omega) (by decide)
          refine r_aload_n 98 dX3_whole_98 rfl ?_
          refine r_get 99 f_X3_25 dX3_whole_99 0 rfl rfl ?_
          refine r_iload_n 102 dX3_whole_102 rfl ?_
          refine r_iaload 103 dX3_whole_103 5 rfl hvp rfl ?_
          refine r_goto 104 109 dX3_whole_104 (by decide) ?_
          exact r_iret 109 dX3_whole_109 rfl rfl (Nat.le_of_ble_eq_true rfl) (Nat.le_of_ble_eq_true rfl) (⟨by rw [hfin] <;> rfl, _, _, _, _, rfl⟩)
      · -- 72F
        have hfin : mwC S g i = nI (wk S g 16).2.2.2 := by
          unfold mwC
          rw [if_neg hno, if_pos c_72]
        refine r_aload_n 75 dX3_whole_75 rfl ?_
        refine r_get 76 f_X3_155 dX3_whole_76 0 rfl rfl ?_
        refine r_goto 79 109 dX3_whole_79 (by decide) ?_
        exact r_iret 109 dX3_whole_109 rfl rfl (Nat.le_of_ble_eq_true rfl) (Nat.le_of_ble_eq_true rfl) (⟨by rw [hfin] <;> rfl, _, _, _, _, rfl⟩)
    · -- 64F
      have hfin : mwC S g i = -6 := if_pos (Or.inr c_64)
      refine r_bipush (v := -6) 67 dX3_whole_67 (by decide) ?_
      exact r_iret 69 dX3_whole_69 rfl rfl (Nat.le_of_ble_eq_true rfl) (Nat.le_of_ble_eq_true rfl) (⟨by rw [hfin] <;> rfl, _, _, _, _, rfl⟩)
