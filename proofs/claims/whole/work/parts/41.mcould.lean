def oLB (S : qS) (A : Nat → Bool) (p : Nat) : Bool := decide (rmN (mN A 16) p = 0) || (!decide (mI (fun i => sW S p i && (rmN (mN A 16) p).testBit i) = 0) && decide (1 ≤ oG S A (rmN (mN A 16) p)))
theorem oLB_1 {S : qS} {A : Nat → Bool} {p : Nat} (h : rmN (mN A 16) p = 0) : oLB S A p = true := by
  unfold oLB
  rw [decide_eq_true h, Bool.true_or]
theorem oLB_2 {S : qS} {A : Nat → Bool} {p : Nat} (h : ¬ rmN (mN A 16) p = 0) (h2 : mI (fun i => sW S p i && (rmN (mN A 16) p).testBit i) = 0) : oLB S A p = false := by
  unfold oLB
  rw [decide_eq_false h, decide_eq_true h2]
  rfl
theorem oLB_3 {S : qS} {A : Nat → Bool} {p : Nat} (h : ¬ rmN (mN A 16) p = 0) (h2 : ¬ mI (fun i => sW S p i && (rmN (mN A 16) p).testBit i) = 0) : oLB S A p = decide (1 ≤ oG S A (rmN (mN A 16) p)) := by
  unfold oLB
  rw [decide_eq_false h, decide_eq_false h2]
  rfl
theorem rm_le {m p : Nat} (h : m < 65536) : rmN m p ≤ m := by
  by_cases hb : m.testBit p = true
  · exact Nat.le_of_lt (rm_lt h hb)
  · refine Nat.le_of_eq (Nat.eq_of_testBit_eq (fun i => ?_))
    rw [rm_b h]
    unfold one
    by_cases hi : i = p
    · rw [hi]
      cases hz : m.testBit p
      · rfl
      · exact absurd hz hb
    · rw [decide_eq_false hi, Bool.not_false, Bool.and_true]
theorem i64_le0 {x : Int64} {n : Nat} (h : x.toInt = (n : Int)) : x ≤ 0 ↔ n = 0 := by
  rw [Int64.le_iff_toInt_le, h, i64_0]
  omega
theorem i64_eq0 {x : Int64} {n : Nat} (h : x.toInt = (n : Int)) : x = 0 ↔ n = 0 := by
  rw [← Int64.toInt_inj, h, i64_0]
  omega
set_option maxRecDepth 100000 in
set_option maxHeartbeats 400000 in
theorem lp_mcould0 {G : jG} {d : Nat} {m : Nat} {A : Nat → Nat} {S : qS} {pm se th ka iw : Int32} (hS : wf S) {f : Nat → Int64} (hz : ¬ (oG S (sqB S)) (mN (sqB S) 16) = 0) (hF : ∀ j, 1 ≤ j → j ≤ mN (sqB S) 16 → (f j).toInt = ((oG S (sqB S)) j : Int)) : ∀ (n : Nat) (k : Nat), sP S + 1 ≤ k + n → k ≤ sP S → Rn G RX3 "could" cX3_could 7 (some .int) (jR (d + 4) 0 0) jX0 (jE G (fun v w => ∃ f2 : Nat → Int64, v = some (.int (if (oG S (sqB S)) (mN (sqB S) 16) = 0 then 0 else mI (sqB S))) ∧ w = ((wX G m A S pm se th ka iw) ++ [(A 9, .inl (G.2.2.2.1, 65536, .inr (.inl (f2))))])) 0 0) 0 0 46 [some (.ref m), some (.int 0), some (.int (nI (mN (sqB S) 16))), some (.int (mI (ltB (sqB S) k))), some (.int (nI k)), none, none] [] ((wX G m A S pm se th ka iw) ++ [(A 9, .inl (G.2.2.2.1, 65536, .inr (.inl (f))))]) := by
  intro n
  induction n with
  | zero => intros; omega
  | succ n ih =>
    intro k h1 h2
    have h16 := hS.p16
    have hV := mN_16 (sqB S)
    refine r_iload 46 dX3_could_46 rfl ?_
    refine r_aload_n 48 dX3_could_48 rfl ?_
    refine r_callVD (ws2 := [_, _, _, _, _]) (wr := [_]) 49 s_X3_75 dX3_could_49 (m_places) rfl rfl 0 rfl rfl rfl [0, 1, 2, 3] [4] rfl rfl rfl rfl (by decide) jRm_ok (Nat.le_of_ble_eq_true rfl) ⟨(Nat.le_of_ble_eq_true rfl), (Nat.le_of_ble_eq_true rfl)⟩ [1, 2, 3, 4, 0] rfl rfl ?_
    refine r_icmp_geN 52 137 dX3_could_52 (by decide) (by omega) (by omega) (fun c_52 => ?_) (fun c_52 => ?_)
    · -- 52T
      obtain rfl : k = sP S := by omega
      have e := ltB_e (X := (sqB S)) (k := sP S) (fun i hi => sqB_out hS hi)
      refine r_iload_n 137 dX3_could_137 rfl ?_
      exact r_iret 138 dX3_could_138 rfl rfl (Nat.le_of_ble_eq_true rfl) (Nat.le_of_ble_eq_true rfl) (⟨f, by rw [if_neg hz, e], rfl⟩)
    · -- 52F
      have hrl := rm_le (m := mN (sqB S) 16) (p := k) (by omega)
      have hr16 := rm_16 (mN (sqB S) 16) k
      refine r_iload_n 55 dX3_could_55 rfl ?_
      refine r_ti (y := mI (mN (sqB S) 16).testBit) (nI_tb (mN_16 _)) ?_
      refine r_iconst (v := 1) 56 dX3_could_56 (by decide) ?_
      refine r_iload 57 dX3_could_57 rfl ?_
      refine r_ishl 59 dX3_could_59 ?_
      refine r_ti (y := mI (one k)) (mI_one (by omega)) ?_
      refine r_iconst (v := -1) 60 dX3_could_60 (by decide) ?_
      refine r_ixor 61 dX3_could_61 ?_
      refine r_iand 62 dX3_could_62 ?_
      refine r_ti (y := nI (rmN (mN (sqB S) 16) k)) (mI_andn _ _) ?_
      refine r_istore (lv2 := [_, _, _, _, _, _, none]) 63 dX3_could_63 (by decide) rfl rfl ?_
      refine r_iload 65 dX3_could_65 rfl ?_
      refine r_if_eq 67 95 dX3_could_67 (by decide) (fun c_67 => ?_) (fun c_67 => ?_)
      · -- 67T
        have hL := oLB_1 (S := S) ((nI_z (by omega)).mp c_67)
        refine r_iconst (v := 1) 95 dX3_could_95 (by decide) ?_
        refine r_goto 96 100 dX3_could_96 (by decide) ?_
        refine r_istore (lv2 := [_, _, _, _, _, _, _]) 100 dX3_could_100 (by decide) rfl rfl ?_
        refine r_iload_n 102 dX3_could_102 rfl ?_
        refine r_aload_n 103 dX3_could_103 rfl ?_
        refine r_iload 104 dX3_could_104 rfl ?_
        refine r_callVD (ws2 := [_, _, _, _, _]) (wr := [_]) 106 s_X3_108 dX3_could_106 (m_isSquare (show k < 16 by omega) (hS.f4 k)) rfl rfl 0 rfl rfl rfl [0, 1, 2, 3] [4] rfl rfl rfl rfl (by decide) jRm_ok (Nat.le_of_ble_eq_true rfl) ⟨(Nat.le_of_ble_eq_true rfl), (Nat.le_of_ble_eq_true rfl)⟩ [1, 2, 3, 4, 0] rfl rfl ?_
        refine r_if_eqB 109 128 dX3_could_109 (by decide) (fun c_109 => ?_) (fun c_109 => ?_)
        · -- 109T
          have hst : mI (ltB (sqB S) k) ||| 0 = mI (ltB (sqB S) (k + 1)) := ltB_f (by cases hz : sqB S k; rfl; exact absurd hz c_109)
          refine r_iconst (v := 0) 128 dX3_could_128 (by decide) ?_
          refine r_ior 129 dX3_could_129 ?_
          refine r_ti (y := mI (ltB (sqB S) (k + 1))) (hst) ?_
          refine r_istore_n (lv2 := [_, _, _, _, _, _, _]) 130 dX3_could_130 (by decide) rfl rfl ?_
          refine r_iinc (lv2 := [_, _, _, _, _, _, _]) 131 dX3_could_131 rfl (jinc) (by decide) rfl rfl ?_
          refine r_goto 134 46 dX3_could_134 (by decide) ?_
          refine r_drop (lv2 := [_, _, _, _, _, none, _]) 5 rfl ?_
          refine r_drop (lv2 := [_, _, _, _, _, none, none]) 6 rfl ?_
          exact ih (k + 1) (by omega) (by omega)
        · -- 109F
          have hst : mI (ltB (sqB S) k) ||| mI (one k) = mI (ltB (sqB S) (k + 1)) := ltB_t c_109
          refine r_iload_n 112 dX3_could_112 rfl ?_
          refine r_if_eqT 113 121 dX3_could_113 (by decide) (by decide) ?_
          refine r_iconst (v := 1) 121 dX3_could_121 (by decide) ?_
          refine r_iload 122 dX3_could_122 rfl ?_
          refine r_ishl 124 dX3_could_124 ?_
          refine r_ti (y := mI (one k)) (mI_one (by omega)) ?_
          refine r_goto 125 129 dX3_could_125 (by decide) ?_
          refine r_ior 129 dX3_could_129 ?_
          refine r_ti (y := mI (ltB (sqB S) (k + 1))) (hst) ?_
          refine r_istore_n (lv2 := [_, _, _, _, _, _, _]) 130 dX3_could_130 (by decide) rfl rfl ?_
          refine r_iinc (lv2 := [_, _, _, _, _, _, _]) 131 dX3_could_131 rfl (jinc) (by decide) rfl rfl ?_
          refine r_goto 134 46 dX3_could_134 (by decide) ?_
          refine r_drop (lv2 := [_, _, _, _, _, none, _]) 5 rfl ?_
          refine r_drop (lv2 := [_, _, _, _, _, none, none]) 6 rfl ?_
          exact ih (k + 1) (by omega) (by omega)
      · -- 67F
        have hr : ¬ (rmN (mN (sqB S) 16) k) = 0 := fun z => c_67 (by rw [z]; rfl)
        refine r_aload_n 70 dX3_could_70 rfl ?_
        refine r_get 71 f_X3_16 dX3_could_71 0 rfl rfl ?_
        refine r_iload 74 dX3_could_74 rfl ?_
        refine r_iaload 76 dX3_could_76 3 rfl (vp_in_nI (by omega) (by decide)) (nI_clamp (by omega)) ?_
        refine r_ti (y := mI (sW S k)) (rfl) ?_
        refine r_iload 77 dX3_could_77 rfl ?_
        refine r_ti (y := mI (rmN (mN (sqB S) 16) k).testBit) (nI_tb hr16) ?_
        refine r_iand 79 dX3_could_79 ?_
        refine r_ti (y := mI (fun i => sW S k i && (rmN (mN (sqB S) 16) k).testBit i)) (mI_and _ _) ?_
        refine r_if_eq 80 99 dX3_could_80 (by decide) (fun c_80 => ?_) (fun c_80 => ?_)
        · -- 80T
          have hL := oLB_2 hr c_80
          refine r_iconst (v := 0) 99 dX3_could_99 (by decide) ?_
          refine r_istore (lv2 := [_, _, _, _, _, _, _]) 100 dX3_could_100 (by decide) rfl rfl ?_
          refine r_iload_n 102 dX3_could_102 rfl ?_
          refine r_aload_n 103 dX3_could_103 rfl ?_
          refine r_iload 104 dX3_could_104 rfl ?_
          refine r_callVD (ws2 := [_, _, _, _, _]) (wr := [_]) 106 s_X3_108 dX3_could_106 (m_isSquare (show k < 16 by omega) (hS.f4 k)) rfl rfl 0 rfl rfl rfl [0, 1, 2, 3] [4] rfl rfl rfl rfl (by decide) jRm_ok (Nat.le_of_ble_eq_true rfl) ⟨(Nat.le_of_ble_eq_true rfl), (Nat.le_of_ble_eq_true rfl)⟩ [1, 2, 3, 4, 0] rfl rfl ?_
          refine r_if_eqB 109 128 dX3_could_109 (by decide) (fun c_109 => ?_) (fun c_109 => ?_)
          · -- 109T
            have hst : mI (ltB (sqB S) k) ||| 0 = mI (ltB (sqB S) (k + 1)) := ltB_f (by cases hz : sqB S k; rfl; exact absurd hz c_109)
            refine r_iconst (v := 0) 128 dX3_could_128 (by decide) ?_
            refine r_ior 129 dX3_could_129 ?_
            refine r_ti (y := mI (ltB (sqB S) (k + 1))) (hst) ?_
            refine r_istore_n (lv2 := [_, _, _, _, _, _, _]) 130 dX3_could_130 (by decide) rfl rfl ?_
            refine r_iinc (lv2 := [_, _, _, _, _, _, _]) 131 dX3_could_131 rfl (jinc) (by decide) rfl rfl ?_
            refine r_goto 134 46 dX3_could_134 (by decide) ?_
            refine r_drop (lv2 := [_, _, _, _, _, none, _]) 5 rfl ?_
            refine r_drop (lv2 := [_, _, _, _, _, none, none]) 6 rfl ?_
            exact ih (k + 1) (by omega) (by omega)
          · -- 109F
            have hst : mI (ltB (sqB S) k) ||| mI (one k) = mI (ltB (sqB S) (k + 1)) := ltB_t c_109
            refine r_iload_n 112 dX3_could_112 rfl ?_
            refine r_if_eqT 113 121 dX3_could_113 (by decide) (by decide) ?_
            refine r_iconst (v := 1) 121 dX3_could_121 (by decide) ?_
            refine r_iload 122 dX3_could_122 rfl ?_
            refine r_ishl 124 dX3_could_124 ?_
            refine r_ti (y := mI (one k)) (mI_one (by omega)) ?_
            refine r_goto 125 129 dX3_could_125 (by decide) ?_
            refine r_ior 129 dX3_could_129 ?_
            refine r_ti (y := mI (ltB (sqB S) (k + 1))) (hst) ?_
            refine r_istore_n (lv2 := [_, _, _, _, _, _, _]) 130 dX3_could_130 (by decide) rfl rfl ?_
            refine r_iinc (lv2 := [_, _, _, _, _, _, _]) 131 dX3_could_131 rfl (jinc) (by decide) rfl rfl ?_
            refine r_goto 134 46 dX3_could_134 (by decide) ?_
            refine r_drop (lv2 := [_, _, _, _, _, none, _]) 5 rfl ?_
            refine r_drop (lv2 := [_, _, _, _, _, none, none]) 6 rfl ?_
            exact ih (k + 1) (by omega) (by omega)
        · -- 80F
          refine r_aload_n 83 dX3_could_83 rfl ?_
          refine r_get 84 f_X3_38 dX3_could_84 0 rfl rfl ?_
          refine r_iload 87 dX3_could_87 rfl ?_
          refine r_laload 89 dX3_could_89 4 rfl (vp_in_nI (by omega) (by decide)) (nI_clamp (by omega)) ?_
          refine r_lconst (v := 0) 90 dX3_could_90 (by decide) ?_
          refine r_lcmp 91 dX3_could_91 ?_
          refine r_if_le 92 99 dX3_could_92 (by decide) (fun c_92 => ?_) (fun c_92 => ?_)
          · -- 92T
            have hL : oLB S (sqB S) k = false := by
              rw [oLB_3 hr c_80, (i64_le0 (hF (rmN (mN (sqB S) 16) k) (by omega) hrl)).mp ((lg_cmp_le _ _).mp c_92)]
              rfl
            refine r_iconst (v := 0) 99 dX3_could_99 (by decide) ?_
            refine r_istore (lv2 := [_, _, _, _, _, _, _]) 100 dX3_could_100 (by decide) rfl rfl ?_
            refine r_iload_n 102 dX3_could_102 rfl ?_
            refine r_aload_n 103 dX3_could_103 rfl ?_
            refine r_iload 104 dX3_could_104 rfl ?_
            refine r_callVD (ws2 := [_, _, _, _, _]) (wr := [_]) 106 s_X3_108 dX3_could_106 (m_isSquare (show k < 16 by omega) (hS.f4 k)) rfl rfl 0 rfl rfl rfl [0, 1, 2, 3] [4] rfl rfl rfl rfl (by decide) jRm_ok (Nat.le_of_ble_eq_true rfl) ⟨(Nat.le_of_ble_eq_true rfl), (Nat.le_of_ble_eq_true rfl)⟩ [1, 2, 3, 4, 0] rfl rfl ?_
            refine r_if_eqB 109 128 dX3_could_109 (by decide) (fun c_109 => ?_) (fun c_109 => ?_)
            · -- 109T
              have hst : mI (ltB (sqB S) k) ||| 0 = mI (ltB (sqB S) (k + 1)) := ltB_f (by cases hz : sqB S k; rfl; exact absurd hz c_109)
              refine r_iconst (v := 0) 128 dX3_could_128 (by decide) ?_
              refine r_ior 129 dX3_could_129 ?_
              refine r_ti (y := mI (ltB (sqB S) (k + 1))) (hst) ?_
              refine r_istore_n (lv2 := [_, _, _, _, _, _, _]) 130 dX3_could_130 (by decide) rfl rfl ?_
              refine r_iinc (lv2 := [_, _, _, _, _, _, _]) 131 dX3_could_131 rfl (jinc) (by decide) rfl rfl ?_
              refine r_goto 134 46 dX3_could_134 (by decide) ?_
              refine r_drop (lv2 := [_, _, _, _, _, none, _]) 5 rfl ?_
              refine r_drop (lv2 := [_, _, _, _, _, none, none]) 6 rfl ?_
              exact ih (k + 1) (by omega) (by omega)
            · -- 109F
              have hst : mI (ltB (sqB S) k) ||| mI (one k) = mI (ltB (sqB S) (k + 1)) := ltB_t c_109
              refine r_iload_n 112 dX3_could_112 rfl ?_
              refine r_if_eqT 113 121 dX3_could_113 (by decide) (by decide) ?_
              refine r_iconst (v := 1) 121 dX3_could_121 (by decide) ?_
              refine r_iload 122 dX3_could_122 rfl ?_
              refine r_ishl 124 dX3_could_124 ?_
              refine r_ti (y := mI (one k)) (mI_one (by omega)) ?_
              refine r_goto 125 129 dX3_could_125 (by decide) ?_
              refine r_ior 129 dX3_could_129 ?_
              refine r_ti (y := mI (ltB (sqB S) (k + 1))) (hst) ?_
              refine r_istore_n (lv2 := [_, _, _, _, _, _, _]) 130 dX3_could_130 (by decide) rfl rfl ?_
              refine r_iinc (lv2 := [_, _, _, _, _, _, _]) 131 dX3_could_131 rfl (jinc) (by decide) rfl rfl ?_
              refine r_goto 134 46 dX3_could_134 (by decide) ?_
              refine r_drop (lv2 := [_, _, _, _, _, none, _]) 5 rfl ?_
              refine r_drop (lv2 := [_, _, _, _, _, none, none]) 6 rfl ?_
              exact ih (k + 1) (by omega) (by omega)
          · -- 92F
            have hL : oLB S (sqB S) k = true := by
              rw [oLB_3 hr c_80]
              exact decide_eq_true (Nat.pos_of_ne_zero (fun z => c_92 ((lg_cmp_le _ _).mpr ((i64_le0 (hF (rmN (mN (sqB S) 16) k) (by omega) hrl)).mpr z))))
            refine r_iconst (v := 1) 95 dX3_could_95 (by decide) ?_
            refine r_goto 96 100 dX3_could_96 (by decide) ?_
            refine r_istore (lv2 := [_, _, _, _, _, _, _]) 100 dX3_could_100 (by decide) rfl rfl ?_
            refine r_iload_n 102 dX3_could_102 rfl ?_
            refine r_aload_n 103 dX3_could_103 rfl ?_
            refine r_iload 104 dX3_could_104 rfl ?_
            refine r_callVD (ws2 := [_, _, _, _, _]) (wr := [_]) 106 s_X3_108 dX3_could_106 (m_isSquare (show k < 16 by omega) (hS.f4 k)) rfl rfl 0 rfl rfl rfl [0, 1, 2, 3] [4] rfl rfl rfl rfl (by decide) jRm_ok (Nat.le_of_ble_eq_true rfl) ⟨(Nat.le_of_ble_eq_true rfl), (Nat.le_of_ble_eq_true rfl)⟩ [1, 2, 3, 4, 0] rfl rfl ?_
            refine r_if_eqB 109 128 dX3_could_109 (by decide) (fun c_109 => ?_) (fun c_109 => ?_)
            · -- 109T
              have hst : mI (ltB (sqB S) k) ||| 0 = mI (ltB (sqB S) (k + 1)) := ltB_f (by cases hz : sqB S k; rfl; exact absurd hz c_109)
              refine r_iconst (v := 0) 128 dX3_could_128 (by decide) ?_
              refine r_ior 129 dX3_could_129 ?_
              refine r_ti (y := mI (ltB (sqB S) (k + 1))) (hst) ?_
              refine r_istore_n (lv2 := [_, _, _, _, _, _, _]) 130 dX3_could_130 (by decide) rfl rfl ?_
              refine r_iinc (lv2 := [_, _, _, _, _, _, _]) 131 dX3_could_131 rfl (jinc) (by decide) rfl rfl ?_
              refine r_goto 134 46 dX3_could_134 (by decide) ?_
              refine r_drop (lv2 := [_, _, _, _, _, none, _]) 5 rfl ?_
              refine r_drop (lv2 := [_, _, _, _, _, none, none]) 6 rfl ?_
              exact ih (k + 1) (by omega) (by omega)
            · -- 109F
              have hst : mI (ltB (sqB S) k) ||| mI (one k) = mI (ltB (sqB S) (k + 1)) := ltB_t c_109
              refine r_iload_n 112 dX3_could_112 rfl ?_
              refine r_if_eqT 113 121 dX3_could_113 (by decide) (by decide) ?_
              refine r_iconst (v := 1) 121 dX3_could_121 (by decide) ?_
              refine r_iload 122 dX3_could_122 rfl ?_
              refine r_ishl 124 dX3_could_124 ?_
              refine r_ti (y := mI (one k)) (mI_one (by omega)) ?_
              refine r_goto 125 129 dX3_could_125 (by decide) ?_
              refine r_ior 129 dX3_could_129 ?_
              refine r_ti (y := mI (ltB (sqB S) (k + 1))) (hst) ?_
              refine r_istore_n (lv2 := [_, _, _, _, _, _, _]) 130 dX3_could_130 (by decide) rfl rfl ?_
              refine r_iinc (lv2 := [_, _, _, _, _, _, _]) 131 dX3_could_131 rfl (jinc) (by decide) rfl rfl ?_
              refine r_goto 134 46 dX3_could_134 (by decide) ?_
              refine r_drop (lv2 := [_, _, _, _, _, none, _]) 5 rfl ?_
              refine r_drop (lv2 := [_, _, _, _, _, none, none]) 6 rfl ?_
              exact ih (k + 1) (by omega) (by omega)
set_option maxRecDepth 100000 in
set_option maxHeartbeats 400000 in
theorem m_could0 {G : jG} {d : Nat} {m : Nat} {A : Nat → Nat} {S : qS} {pm se th ka iw : Int32} {f : Nat → Int64} (hS : wf S) : Ct G yX3_could cX3_could 7 (some .int) (d + 4) 0 0 [.ref m, .int 0] ((wX G m A S pm se th ka iw) ++ [(A 9, .inl (G.2.2.2.1, 65536, .inr (.inl (f))))]) (fun v w => ∃ f2 : Nat → Int64, v = some (.int (if (oG S (sqB S)) (mN (sqB S) 16) = 0 then 0 else mI (sqB S))) ∧ w = ((wX G m A S pm se th ka iw) ++ [(A 9, .inl (G.2.2.2.1, 65536, .inr (.inl (f2))))])) := by
  refine ct_of (by decide) (Nat.le_of_ble_eq_true rfl) (own := RX3) (nm := "could") rfl rfl (lv := [some (.ref m), some (.int 0), none, none, none, none, none]) rfl ?_
  refine r_iload_n 0 dX3_could_0 rfl ?_
  refine r_i2l 1 dX3_could_1 ?_
  refine r_lconst (v := 0) 2 dX3_could_2 (by decide) ?_
  refine r_lconst (v := 1) 3 dX3_could_3 (by decide) ?_
  refine r_sta (st2 := [.long (1 : Int32).toInt64, .long (0 : Int32).toInt64, .long (0 : Int32).toInt64]) rfl ?_
  refine r_callSD (ws2 := [_, _, _, _, _]) (wr := [_, _, _, _, _]) 4 s_X3_79 dX3_could_4 (m_in1 (by decide)) rfl rfl [] [0, 1, 2, 3, 4] rfl rfl rfl rfl (by decide) jRm_ok (Nat.le_of_ble_eq_true rfl) ⟨(Nat.le_of_ble_eq_true rfl), (Nat.le_of_ble_eq_true rfl)⟩ [0, 1, 2, 3, 4] rfl rfl ?_
  refine r_if_neT 7 13 dX3_could_7 (by decide) (by decide) ?_
  refine r_aload_n 13 dX3_could_13 rfl ?_
  refine r_callVD (ws2 := [_, _, _, _, _]) (wr := [_]) 14 s_X3_101 dX3_could_14 (m_squares hS) rfl rfl 0 rfl rfl rfl [0, 1, 2, 3] [4] rfl rfl rfl rfl (by decide) jRm_ok (Nat.le_of_ble_eq_true rfl) ⟨(Nat.le_of_ble_eq_true rfl), (Nat.le_of_ble_eq_true rfl)⟩ [1, 2, 3, 4, 0] rfl rfl ?_
  refine r_istore_n (lv2 := [_, _, _, none, none, none, none]) 17 dX3_could_17 (by decide) rfl rfl ?_
  refine r_iload_n 18 dX3_could_18 rfl ?_
  refine r_if_ne 19 24 dX3_could_19 (by decide) (fun c_19 => ?_) (fun c_19 => ?_)
  · -- 19T
    have h0 : ¬ mN (sqB S) 16 = 0 := fun z => c_19 (by show nI (mN (sqB S) 16) = 0; rw [z]; rfl)
    have h1 : 1 ≤ mN (sqB S) 16 := Nat.pos_of_ne_zero h0
    refine r_aload_n 24 dX3_could_24 rfl ?_
    refine r_callV (wr := []) 25 s_X3_189 dX3_could_25 (m_findOrders hS) rfl rfl 0 rfl rfl rfl [0, 1, 2, 3, 4] [] rfl rfl rfl rfl (by decide) jRm_ok (Nat.le_of_ble_eq_true rfl) ⟨(Nat.le_of_ble_eq_true rfl), (Nat.le_of_ble_eq_true rfl)⟩ (fun v w1 hq => ?_)
    obtain ⟨rfl, f2, hF, rfl⟩ := hq
    refine r_aload_n 28 dX3_could_28 rfl ?_
    refine r_get 29 f_X3_38 dX3_could_29 0 rfl rfl ?_
    refine r_iload_n 32 dX3_could_32 rfl ?_
    refine r_ti (y := nI (mN (sqB S) 16)) (rfl) ?_
    refine r_laload 33 dX3_could_33 4 rfl (vp_in_nI (mN_16 _) (by decide)) (nI_clamp (Nat.lt_trans (mN_16 _) (by decide))) ?_
    refine r_lconst (v := 0) 34 dX3_could_34 (by decide) ?_
    refine r_lcmp 35 dX3_could_35 ?_
    refine r_if_ne 36 41 dX3_could_36 (by decide) (fun c_36 => ?_) (fun c_36 => ?_)
    · -- 36T
      have hz : ¬ (oG S (sqB S)) (mN (sqB S) 16) = 0 := fun z => c_36 ((lg_cmp_eq _ _).mpr ((i64_eq0 (hF _ h1 (Nat.le_refl _))).mpr z))
      refine r_iconst (v := 0) 41 dX3_could_41 (by decide) ?_
      refine r_ti (y := mI (ltB (sqB S) 0)) (ltB_0 _) ?_
      refine r_istore_n (lv2 := [_, _, _, _, none, none, none]) 42 dX3_could_42 (by decide) rfl rfl ?_
      refine r_iconst (v := 0) 43 dX3_could_43 (by decide) ?_
      refine r_ti (y := nI 0) (nI_0.symm) ?_
      refine r_istore (lv2 := [_, _, _, _, _, none, none]) 44 dX3_could_44 (by decide) rfl rfl ?_
      exact lp_mcould0 hS hz hF (sP S + 1) 0 (by omega) (by omega)
    · -- 36F
      have hz : (oG S (sqB S)) (mN (sqB S) 16) = 0 := (i64_eq0 (hF _ h1 (Nat.le_refl _))).mp ((lg_cmp_eq _ _).mp c_36)
      refine r_iconst (v := 0) 39 dX3_could_39 (by decide) ?_
      exact r_iret 40 dX3_could_40 rfl rfl (Nat.le_of_ble_eq_true rfl) (Nat.le_of_ble_eq_true rfl) (⟨_, by rw [if_pos hz], rfl⟩)
  · -- 19F
    have h0 : mN (sqB S) 16 = 0 := (nI_z (Nat.lt_trans (mN_16 _) (by decide))).mp c_19
    have hz : (oG S (sqB S)) (mN (sqB S) 16) = 0 := by rw [h0, oG_0]
    refine r_iconst (v := 0) 22 dX3_could_22 (by decide) ?_
    exact r_iret 23 dX3_could_23 rfl rfl (Nat.le_of_ble_eq_true rfl) (Nat.le_of_ble_eq_true rfl) (⟨_, by rw [if_pos hz], rfl⟩)
set_option maxRecDepth 100000 in
set_option maxHeartbeats 400000 in
theorem lp_mcould1 {G : jG} {d : Nat} {m : Nat} {A : Nat → Nat} {S : qS} {pm se th ka iw : Int32} (hS : wf S) {f : Nat → Int64} (hz : ¬ (oG S (sqB S)) (mN (sqB S) 16) = 0) (hF : ∀ j, 1 ≤ j → j ≤ mN (sqB S) 16 → (f j).toInt = ((oG S (sqB S)) j : Int)) : ∀ (n : Nat) (k : Nat), sP S + 1 ≤ k + n → k ≤ sP S → Rn G RX3 "could" cX3_could 7 (some .int) (jR (d + 4) 0 0) jX0 (jE G (fun v w => ∃ f2 : Nat → Int64, v = some (.int (if (oG S (sqB S)) (mN (sqB S) 16) = 0 then 0 else mI (fun i => sqB S i && oLB S (sqB S) i))) ∧ w = ((wX G m A S pm se th ka iw) ++ [(A 9, .inl (G.2.2.2.1, 65536, .inr (.inl (f2))))])) 0 0) 0 0 46 [some (.ref m), some (.int 1), some (.int (nI (mN (sqB S) 16))), some (.int (mI (ltB (fun i => sqB S i && oLB S (sqB S) i) k))), some (.int (nI k)), none, none] [] ((wX G m A S pm se th ka iw) ++ [(A 9, .inl (G.2.2.2.1, 65536, .inr (.inl (f))))]) := by
  intro n
  induction n with
  | zero => intros; omega
  | succ n ih =>
    intro k h1 h2
    have h16 := hS.p16
    have hV := mN_16 (sqB S)
    refine r_iload 46 dX3_could_46 rfl ?_
    refine r_aload_n 48 dX3_could_48 rfl ?_
    refine r_callVD (ws2 := [_, _, _, _, _]) (wr := [_]) 49 s_X3_75 dX3_could_49 (m_places) rfl rfl 0 rfl rfl rfl [0, 1, 2, 3] [4] rfl rfl rfl rfl (by decide) jRm_ok (Nat.le_of_ble_eq_true rfl) ⟨(Nat.le_of_ble_eq_true rfl), (Nat.le_of_ble_eq_true rfl)⟩ [1, 2, 3, 4, 0] rfl rfl ?_
    refine r_icmp_geN 52 137 dX3_could_52 (by decide) (by omega) (by omega) (fun c_52 => ?_) (fun c_52 => ?_)
    · -- 52T
      obtain rfl : k = sP S := by omega
      have e := ltB_e (X := (fun i => sqB S i && oLB S (sqB S) i)) (k := sP S) (fun i hi => by rw [sqB_out hS hi]; rfl)
      refine r_iload_n 137 dX3_could_137 rfl ?_
      exact r_iret 138 dX3_could_138 rfl rfl (Nat.le_of_ble_eq_true rfl) (Nat.le_of_ble_eq_true rfl) (⟨f, by rw [if_neg hz, e], rfl⟩)
    · -- 52F
      have hrl := rm_le (m := mN (sqB S) 16) (p := k) (by omega)
      have hr16 := rm_16 (mN (sqB S) 16) k
      refine r_iload_n 55 dX3_could_55 rfl ?_
      refine r_ti (y := mI (mN (sqB S) 16).testBit) (nI_tb (mN_16 _)) ?_
      refine r_iconst (v := 1) 56 dX3_could_56 (by decide) ?_
      refine r_iload 57 dX3_could_57 rfl ?_
      refine r_ishl 59 dX3_could_59 ?_
      refine r_ti (y := mI (one k)) (mI_one (by omega)) ?_
      refine r_iconst (v := -1) 60 dX3_could_60 (by decide) ?_
      refine r_ixor 61 dX3_could_61 ?_
      refine r_iand 62 dX3_could_62 ?_
      refine r_ti (y := nI (rmN (mN (sqB S) 16) k)) (mI_andn _ _) ?_
      refine r_istore (lv2 := [_, _, _, _, _, _, none]) 63 dX3_could_63 (by decide) rfl rfl ?_
      refine r_iload 65 dX3_could_65 rfl ?_
      refine r_if_eq 67 95 dX3_could_67 (by decide) (fun c_67 => ?_) (fun c_67 => ?_)
      · -- 67T
        have hL := oLB_1 (S := S) ((nI_z (by omega)).mp c_67)
        refine r_iconst (v := 1) 95 dX3_could_95 (by decide) ?_
        refine r_goto 96 100 dX3_could_96 (by decide) ?_
        refine r_istore (lv2 := [_, _, _, _, _, _, _]) 100 dX3_could_100 (by decide) rfl rfl ?_
        refine r_iload_n 102 dX3_could_102 rfl ?_
        refine r_aload_n 103 dX3_could_103 rfl ?_
        refine r_iload 104 dX3_could_104 rfl ?_
        refine r_callVD (ws2 := [_, _, _, _, _]) (wr := [_]) 106 s_X3_108 dX3_could_106 (m_isSquare (show k < 16 by omega) (hS.f4 k)) rfl rfl 0 rfl rfl rfl [0, 1, 2, 3] [4] rfl rfl rfl rfl (by decide) jRm_ok (Nat.le_of_ble_eq_true rfl) ⟨(Nat.le_of_ble_eq_true rfl), (Nat.le_of_ble_eq_true rfl)⟩ [1, 2, 3, 4, 0] rfl rfl ?_
        refine r_if_eqB 109 128 dX3_could_109 (by decide) (fun c_109 => ?_) (fun c_109 => ?_)
        · -- 109T
          have hst : mI (ltB (fun i => sqB S i && oLB S (sqB S) i) k) ||| 0 = mI (ltB (fun i => sqB S i && oLB S (sqB S) i) (k + 1)) := ltB_f (by show (sqB S k && oLB S (sqB S) k) = false; cases hz : sqB S k; rfl; exact absurd hz c_109)
          refine r_iconst (v := 0) 128 dX3_could_128 (by decide) ?_
          refine r_ior 129 dX3_could_129 ?_
          refine r_ti (y := mI (ltB (fun i => sqB S i && oLB S (sqB S) i) (k + 1))) (hst) ?_
          refine r_istore_n (lv2 := [_, _, _, _, _, _, _]) 130 dX3_could_130 (by decide) rfl rfl ?_
          refine r_iinc (lv2 := [_, _, _, _, _, _, _]) 131 dX3_could_131 rfl (jinc) (by decide) rfl rfl ?_
          refine r_goto 134 46 dX3_could_134 (by decide) ?_
          refine r_drop (lv2 := [_, _, _, _, _, none, _]) 5 rfl ?_
          refine r_drop (lv2 := [_, _, _, _, _, none, none]) 6 rfl ?_
          exact ih (k + 1) (by omega) (by omega)
        · -- 109F
          first
          | have hst : mI (ltB (fun i => sqB S i && oLB S (sqB S) i) k) ||| mI (one k) = mI (ltB (fun i => sqB S i && oLB S (sqB S) i) (k + 1)) := ltB_t (by show (sqB S k && oLB S (sqB S) k) = true; rw [c_109, hL]; rfl)
          | have hst : mI (ltB (fun i => sqB S i && oLB S (sqB S) i) k) ||| 0 = mI (ltB (fun i => sqB S i && oLB S (sqB S) i) (k + 1)) := ltB_f (by show (sqB S k && oLB S (sqB S) k) = false; rw [hL, Bool.and_false])
          refine r_iload_n 112 dX3_could_112 rfl ?_
          refine r_if_eqF 113 121 dX3_could_113 (by decide) (by decide) ?_
          refine r_iload 116 dX3_could_116 rfl ?_
          refine r_if_eqF 118 128 dX3_could_118 (by decide) (by decide) ?_
          refine r_iconst (v := 1) 121 dX3_could_121 (by decide) ?_
          refine r_iload 122 dX3_could_122 rfl ?_
          refine r_ishl 124 dX3_could_124 ?_
          refine r_ti (y := mI (one k)) (mI_one (by omega)) ?_
          refine r_goto 125 129 dX3_could_125 (by decide) ?_
          refine r_ior 129 dX3_could_129 ?_
          refine r_ti (y := mI (ltB (fun i => sqB S i && oLB S (sqB S) i) (k + 1))) (hst) ?_
          refine r_istore_n (lv2 := [_, _, _, _, _, _, _]) 130 dX3_could_130 (by decide) rfl rfl ?_
          refine r_iinc (lv2 := [_, _, _, _, _, _, _]) 131 dX3_could_131 rfl (jinc) (by decide) rfl rfl ?_
          refine r_goto 134 46 dX3_could_134 (by decide) ?_
          refine r_drop (lv2 := [_, _, _, _, _, none, _]) 5 rfl ?_
          refine r_drop (lv2 := [_, _, _, _, _, none, none]) 6 rfl ?_
          exact ih (k + 1) (by omega) (by omega)
      · -- 67F
        have hr : ¬ (rmN (mN (sqB S) 16) k) = 0 := fun z => c_67 (by rw [z]; rfl)
        refine r_aload_n 70 dX3_could_70 rfl ?_
        refine r_get 71 f_X3_16 dX3_could_71 0 rfl rfl ?_
        refine r_iload 74 dX3_could_74 rfl ?_
        refine r_iaload 76 dX3_could_76 3 rfl (vp_in_nI (by omega) (by decide)) (nI_clamp (by omega)) ?_
        refine r_ti (y := mI (sW S k)) (rfl) ?_
        refine r_iload 77 dX3_could_77 rfl ?_
        refine r_ti (y := mI (rmN (mN (sqB S) 16) k).testBit) (nI_tb hr16) ?_
        refine r_iand 79 dX3_could_79 ?_
        refine r_ti (y := mI (fun i => sW S k i && (rmN (mN (sqB S) 16) k).testBit i)) (mI_and _ _) ?_
        refine r_if_eq 80 99 dX3_could_80 (by decide) (fun c_80 => ?_) (fun c_80 => ?_)
        · -- 80T
          have hL := oLB_2 hr c_80
          refine r_iconst (v := 0) 99 dX3_could_99 (by decide) ?_
          refine r_istore (lv2 := [_, _, _, _, _, _, _]) 100 dX3_could_100 (by decide) rfl rfl ?_
          refine r_iload_n 102 dX3_could_102 rfl ?_
          refine r_aload_n 103 dX3_could_103 rfl ?_
          refine r_iload 104 dX3_could_104 rfl ?_
          refine r_callVD (ws2 := [_, _, _, _, _]) (wr := [_]) 106 s_X3_108 dX3_could_106 (m_isSquare (show k < 16 by omega) (hS.f4 k)) rfl rfl 0 rfl rfl rfl [0, 1, 2, 3] [4] rfl rfl rfl rfl (by decide) jRm_ok (Nat.le_of_ble_eq_true rfl) ⟨(Nat.le_of_ble_eq_true rfl), (Nat.le_of_ble_eq_true rfl)⟩ [1, 2, 3, 4, 0] rfl rfl ?_
          refine r_if_eqB 109 128 dX3_could_109 (by decide) (fun c_109 => ?_) (fun c_109 => ?_)
          · -- 109T
            have hst : mI (ltB (fun i => sqB S i && oLB S (sqB S) i) k) ||| 0 = mI (ltB (fun i => sqB S i && oLB S (sqB S) i) (k + 1)) := ltB_f (by show (sqB S k && oLB S (sqB S) k) = false; cases hz : sqB S k; rfl; exact absurd hz c_109)
            refine r_iconst (v := 0) 128 dX3_could_128 (by decide) ?_
            refine r_ior 129 dX3_could_129 ?_
            refine r_ti (y := mI (ltB (fun i => sqB S i && oLB S (sqB S) i) (k + 1))) (hst) ?_
            refine r_istore_n (lv2 := [_, _, _, _, _, _, _]) 130 dX3_could_130 (by decide) rfl rfl ?_
            refine r_iinc (lv2 := [_, _, _, _, _, _, _]) 131 dX3_could_131 rfl (jinc) (by decide) rfl rfl ?_
            refine r_goto 134 46 dX3_could_134 (by decide) ?_
            refine r_drop (lv2 := [_, _, _, _, _, none, _]) 5 rfl ?_
            refine r_drop (lv2 := [_, _, _, _, _, none, none]) 6 rfl ?_
            exact ih (k + 1) (by omega) (by omega)
          · -- 109F
            first
            | have hst : mI (ltB (fun i => sqB S i && oLB S (sqB S) i) k) ||| mI (one k) = mI (ltB (fun i => sqB S i && oLB S (sqB S) i) (k + 1)) := ltB_t (by show (sqB S k && oLB S (sqB S) k) = true; rw [c_109, hL]; rfl)
            | have hst : mI (ltB (fun i => sqB S i && oLB S (sqB S) i) k) ||| 0 = mI (ltB (fun i => sqB S i && oLB S (sqB S) i) (k + 1)) := ltB_f (by show (sqB S k && oLB S (sqB S) k) = false; rw [hL, Bool.and_false])
            refine r_iload_n 112 dX3_could_112 rfl ?_
            refine r_if_eqF 113 121 dX3_could_113 (by decide) (by decide) ?_
            refine r_iload 116 dX3_could_116 rfl ?_
            refine r_if_eqT 118 128 dX3_could_118 (by decide) (by decide) ?_
            refine r_iconst (v := 0) 128 dX3_could_128 (by decide) ?_
            refine r_ior 129 dX3_could_129 ?_
            refine r_ti (y := mI (ltB (fun i => sqB S i && oLB S (sqB S) i) (k + 1))) (hst) ?_
            refine r_istore_n (lv2 := [_, _, _, _, _, _, _]) 130 dX3_could_130 (by decide) rfl rfl ?_
            refine r_iinc (lv2 := [_, _, _, _, _, _, _]) 131 dX3_could_131 rfl (jinc) (by decide) rfl rfl ?_
            refine r_goto 134 46 dX3_could_134 (by decide) ?_
            refine r_drop (lv2 := [_, _, _, _, _, none, _]) 5 rfl ?_
            refine r_drop (lv2 := [_, _, _, _, _, none, none]) 6 rfl ?_
            exact ih (k + 1) (by omega) (by omega)
        · -- 80F
          refine r_aload_n 83 dX3_could_83 rfl ?_
          refine r_get 84 f_X3_38 dX3_could_84 0 rfl rfl ?_
          refine r_iload 87 dX3_could_87 rfl ?_
          refine r_laload 89 dX3_could_89 4 rfl (vp_in_nI (by omega) (by decide)) (nI_clamp (by omega)) ?_
          refine r_lconst (v := 0) 90 dX3_could_90 (by decide) ?_
          refine r_lcmp 91 dX3_could_91 ?_
          refine r_if_le 92 99 dX3_could_92 (by decide) (fun c_92 => ?_) (fun c_92 => ?_)
          · -- 92T
            have hL : oLB S (sqB S) k = false := by
              rw [oLB_3 hr c_80, (i64_le0 (hF (rmN (mN (sqB S) 16) k) (by omega) hrl)).mp ((lg_cmp_le _ _).mp c_92)]
              rfl
            refine r_iconst (v := 0) 99 dX3_could_99 (by decide) ?_
            refine r_istore (lv2 := [_, _, _, _, _, _, _]) 100 dX3_could_100 (by decide) rfl rfl ?_
            refine r_iload_n 102 dX3_could_102 rfl ?_
            refine r_aload_n 103 dX3_could_103 rfl ?_
            refine r_iload 104 dX3_could_104 rfl ?_
            refine r_callVD (ws2 := [_, _, _, _, _]) (wr := [_]) 106 s_X3_108 dX3_could_106 (m_isSquare (show k < 16 by omega) (hS.f4 k)) rfl rfl 0 rfl rfl rfl [0, 1, 2, 3] [4] rfl rfl rfl rfl (by decide) jRm_ok (Nat.le_of_ble_eq_true rfl) ⟨(Nat.le_of_ble_eq_true rfl), (Nat.le_of_ble_eq_true rfl)⟩ [1, 2, 3, 4, 0] rfl rfl ?_
            refine r_if_eqB 109 128 dX3_could_109 (by decide) (fun c_109 => ?_) (fun c_109 => ?_)
            · -- 109T
              have hst : mI (ltB (fun i => sqB S i && oLB S (sqB S) i) k) ||| 0 = mI (ltB (fun i => sqB S i && oLB S (sqB S) i) (k + 1)) := ltB_f (by show (sqB S k && oLB S (sqB S) k) = false; cases hz : sqB S k; rfl; exact absurd hz c_109)
              refine r_iconst (v := 0) 128 dX3_could_128 (by decide) ?_
              refine r_ior 129 dX3_could_129 ?_
              refine r_ti (y := mI (ltB (fun i => sqB S i && oLB S (sqB S) i) (k + 1))) (hst) ?_
              refine r_istore_n (lv2 := [_, _, _, _, _, _, _]) 130 dX3_could_130 (by decide) rfl rfl ?_
              refine r_iinc (lv2 := [_, _, _, _, _, _, _]) 131 dX3_could_131 rfl (jinc) (by decide) rfl rfl ?_
              refine r_goto 134 46 dX3_could_134 (by decide) ?_
              refine r_drop (lv2 := [_, _, _, _, _, none, _]) 5 rfl ?_
              refine r_drop (lv2 := [_, _, _, _, _, none, none]) 6 rfl ?_
              exact ih (k + 1) (by omega) (by omega)
            · -- 109F
              first
              | have hst : mI (ltB (fun i => sqB S i && oLB S (sqB S) i) k) ||| mI (one k) = mI (ltB (fun i => sqB S i && oLB S (sqB S) i) (k + 1)) := ltB_t (by show (sqB S k && oLB S (sqB S) k) = true; rw [c_109, hL]; rfl)
              | have hst : mI (ltB (fun i => sqB S i && oLB S (sqB S) i) k) ||| 0 = mI (ltB (fun i => sqB S i && oLB S (sqB S) i) (k + 1)) := ltB_f (by show (sqB S k && oLB S (sqB S) k) = false; rw [hL, Bool.and_false])
              refine r_iload_n 112 dX3_could_112 rfl ?_
              refine r_if_eqF 113 121 dX3_could_113 (by decide) (by decide) ?_
              refine r_iload 116 dX3_could_116 rfl ?_
              refine r_if_eqT 118 128 dX3_could_118 (by decide) (by decide) ?_
              refine r_iconst (v := 0) 128 dX3_could_128 (by decide) ?_
              refine r_ior 129 dX3_could_129 ?_
              refine r_ti (y := mI (ltB (fun i => sqB S i && oLB S (sqB S) i) (k + 1))) (hst) ?_
              refine r_istore_n (lv2 := [_, _, _, _, _, _, _]) 130 dX3_could_130 (by decide) rfl rfl ?_
              refine r_iinc (lv2 := [_, _, _, _, _, _, _]) 131 dX3_could_131 rfl (jinc) (by decide) rfl rfl ?_
              refine r_goto 134 46 dX3_could_134 (by decide) ?_
              refine r_drop (lv2 := [_, _, _, _, _, none, _]) 5 rfl ?_
              refine r_drop (lv2 := [_, _, _, _, _, none, none]) 6 rfl ?_
              exact ih (k + 1) (by omega) (by omega)
          · -- 92F
            have hL : oLB S (sqB S) k = true := by
              rw [oLB_3 hr c_80]
              exact decide_eq_true (Nat.pos_of_ne_zero (fun z => c_92 ((lg_cmp_le _ _).mpr ((i64_le0 (hF (rmN (mN (sqB S) 16) k) (by omega) hrl)).mpr z))))
            refine r_iconst (v := 1) 95 dX3_could_95 (by decide) ?_
            refine r_goto 96 100 dX3_could_96 (by decide) ?_
            refine r_istore (lv2 := [_, _, _, _, _, _, _]) 100 dX3_could_100 (by decide) rfl rfl ?_
            refine r_iload_n 102 dX3_could_102 rfl ?_
            refine r_aload_n 103 dX3_could_103 rfl ?_
            refine r_iload 104 dX3_could_104 rfl ?_
            refine r_callVD (ws2 := [_, _, _, _, _]) (wr := [_]) 106 s_X3_108 dX3_could_106 (m_isSquare (show k < 16 by omega) (hS.f4 k)) rfl rfl 0 rfl rfl rfl [0, 1, 2, 3] [4] rfl rfl rfl rfl (by decide) jRm_ok (Nat.le_of_ble_eq_true rfl) ⟨(Nat.le_of_ble_eq_true rfl), (Nat.le_of_ble_eq_true rfl)⟩ [1, 2, 3, 4, 0] rfl rfl ?_
            refine r_if_eqB 109 128 dX3_could_109 (by decide) (fun c_109 => ?_) (fun c_109 => ?_)
            · -- 109T
              have hst : mI (ltB (fun i => sqB S i && oLB S (sqB S) i) k) ||| 0 = mI (ltB (fun i => sqB S i && oLB S (sqB S) i) (k + 1)) := ltB_f (by show (sqB S k && oLB S (sqB S) k) = false; cases hz : sqB S k; rfl; exact absurd hz c_109)
              refine r_iconst (v := 0) 128 dX3_could_128 (by decide) ?_
              refine r_ior 129 dX3_could_129 ?_
              refine r_ti (y := mI (ltB (fun i => sqB S i && oLB S (sqB S) i) (k + 1))) (hst) ?_
              refine r_istore_n (lv2 := [_, _, _, _, _, _, _]) 130 dX3_could_130 (by decide) rfl rfl ?_
              refine r_iinc (lv2 := [_, _, _, _, _, _, _]) 131 dX3_could_131 rfl (jinc) (by decide) rfl rfl ?_
              refine r_goto 134 46 dX3_could_134 (by decide) ?_
              refine r_drop (lv2 := [_, _, _, _, _, none, _]) 5 rfl ?_
              refine r_drop (lv2 := [_, _, _, _, _, none, none]) 6 rfl ?_
              exact ih (k + 1) (by omega) (by omega)
            · -- 109F
              first
              | have hst : mI (ltB (fun i => sqB S i && oLB S (sqB S) i) k) ||| mI (one k) = mI (ltB (fun i => sqB S i && oLB S (sqB S) i) (k + 1)) := ltB_t (by show (sqB S k && oLB S (sqB S) k) = true; rw [c_109, hL]; rfl)
              | have hst : mI (ltB (fun i => sqB S i && oLB S (sqB S) i) k) ||| 0 = mI (ltB (fun i => sqB S i && oLB S (sqB S) i) (k + 1)) := ltB_f (by show (sqB S k && oLB S (sqB S) k) = false; rw [hL, Bool.and_false])
              refine r_iload_n 112 dX3_could_112 rfl ?_
              refine r_if_eqF 113 121 dX3_could_113 (by decide) (by decide) ?_
              refine r_iload 116 dX3_could_116 rfl ?_
              refine r_if_eqF 118 128 dX3_could_118 (by decide) (by decide) ?_
              refine r_iconst (v := 1) 121 dX3_could_121 (by decide) ?_
              refine r_iload 122 dX3_could_122 rfl ?_
              refine r_ishl 124 dX3_could_124 ?_
              refine r_ti (y := mI (one k)) (mI_one (by omega)) ?_
              refine r_goto 125 129 dX3_could_125 (by decide) ?_
              refine r_ior 129 dX3_could_129 ?_
              refine r_ti (y := mI (ltB (fun i => sqB S i && oLB S (sqB S) i) (k + 1))) (hst) ?_
              refine r_istore_n (lv2 := [_, _, _, _, _, _, _]) 130 dX3_could_130 (by decide) rfl rfl ?_
              refine r_iinc (lv2 := [_, _, _, _, _, _, _]) 131 dX3_could_131 rfl (jinc) (by decide) rfl rfl ?_
              refine r_goto 134 46 dX3_could_134 (by decide) ?_
              refine r_drop (lv2 := [_, _, _, _, _, none, _]) 5 rfl ?_
              refine r_drop (lv2 := [_, _, _, _, _, none, none]) 6 rfl ?_
              exact ih (k + 1) (by omega) (by omega)
set_option maxRecDepth 100000 in
set_option maxHeartbeats 400000 in
theorem m_could1 {G : jG} {d : Nat} {m : Nat} {A : Nat → Nat} {S : qS} {pm se th ka iw : Int32} {f : Nat → Int64} (hS : wf S) : Ct G yX3_could cX3_could 7 (some .int) (d + 4) 0 0 [.ref m, .int 1] ((wX G m A S pm se th ka iw) ++ [(A 9, .inl (G.2.2.2.1, 65536, .inr (.inl (f))))]) (fun v w => ∃ f2 : Nat → Int64, v = some (.int (if (oG S (sqB S)) (mN (sqB S) 16) = 0 then 0 else mI (fun i => sqB S i && oLB S (sqB S) i))) ∧ w = ((wX G m A S pm se th ka iw) ++ [(A 9, .inl (G.2.2.2.1, 65536, .inr (.inl (f2))))])) := by
  refine ct_of (by decide) (Nat.le_of_ble_eq_true rfl) (own := RX3) (nm := "could") rfl rfl (lv := [some (.ref m), some (.int 1), none, none, none, none, none]) rfl ?_
  refine r_iload_n 0 dX3_could_0 rfl ?_
  refine r_i2l 1 dX3_could_1 ?_
  refine r_lconst (v := 0) 2 dX3_could_2 (by decide) ?_
  refine r_lconst (v := 1) 3 dX3_could_3 (by decide) ?_
  refine r_sta (st2 := [.long (1 : Int32).toInt64, .long (0 : Int32).toInt64, .long (1 : Int32).toInt64]) rfl ?_
  refine r_callSD (ws2 := [_, _, _, _, _]) (wr := [_, _, _, _, _]) 4 s_X3_79 dX3_could_4 (m_in1 (by decide)) rfl rfl [] [0, 1, 2, 3, 4] rfl rfl rfl rfl (by decide) jRm_ok (Nat.le_of_ble_eq_true rfl) ⟨(Nat.le_of_ble_eq_true rfl), (Nat.le_of_ble_eq_true rfl)⟩ [0, 1, 2, 3, 4] rfl rfl ?_
  refine r_if_neT 7 13 dX3_could_7 (by decide) (by decide) ?_
  refine r_aload_n 13 dX3_could_13 rfl ?_
  refine r_callVD (ws2 := [_, _, _, _, _]) (wr := [_]) 14 s_X3_101 dX3_could_14 (m_squares hS) rfl rfl 0 rfl rfl rfl [0, 1, 2, 3] [4] rfl rfl rfl rfl (by decide) jRm_ok (Nat.le_of_ble_eq_true rfl) ⟨(Nat.le_of_ble_eq_true rfl), (Nat.le_of_ble_eq_true rfl)⟩ [1, 2, 3, 4, 0] rfl rfl ?_
  refine r_istore_n (lv2 := [_, _, _, none, none, none, none]) 17 dX3_could_17 (by decide) rfl rfl ?_
  refine r_iload_n 18 dX3_could_18 rfl ?_
  refine r_if_ne 19 24 dX3_could_19 (by decide) (fun c_19 => ?_) (fun c_19 => ?_)
  · -- 19T
    have h0 : ¬ mN (sqB S) 16 = 0 := fun z => c_19 (by show nI (mN (sqB S) 16) = 0; rw [z]; rfl)
    have h1 : 1 ≤ mN (sqB S) 16 := Nat.pos_of_ne_zero h0
    refine r_aload_n 24 dX3_could_24 rfl ?_
    refine r_callV (wr := []) 25 s_X3_189 dX3_could_25 (m_findOrders hS) rfl rfl 0 rfl rfl rfl [0, 1, 2, 3, 4] [] rfl rfl rfl rfl (by decide) jRm_ok (Nat.le_of_ble_eq_true rfl) ⟨(Nat.le_of_ble_eq_true rfl), (Nat.le_of_ble_eq_true rfl)⟩ (fun v w1 hq => ?_)
    obtain ⟨rfl, f2, hF, rfl⟩ := hq
    refine r_aload_n 28 dX3_could_28 rfl ?_
    refine r_get 29 f_X3_38 dX3_could_29 0 rfl rfl ?_
    refine r_iload_n 32 dX3_could_32 rfl ?_
    refine r_ti (y := nI (mN (sqB S) 16)) (rfl) ?_
    refine r_laload 33 dX3_could_33 4 rfl (vp_in_nI (mN_16 _) (by decide)) (nI_clamp (Nat.lt_trans (mN_16 _) (by decide))) ?_
    refine r_lconst (v := 0) 34 dX3_could_34 (by decide) ?_
    refine r_lcmp 35 dX3_could_35 ?_
    refine r_if_ne 36 41 dX3_could_36 (by decide) (fun c_36 => ?_) (fun c_36 => ?_)
    · -- 36T
      have hz : ¬ (oG S (sqB S)) (mN (sqB S) 16) = 0 := fun z => c_36 ((lg_cmp_eq _ _).mpr ((i64_eq0 (hF _ h1 (Nat.le_refl _))).mpr z))
      refine r_iconst (v := 0) 41 dX3_could_41 (by decide) ?_
      refine r_ti (y := mI (ltB (fun i => sqB S i && oLB S (sqB S) i) 0)) (ltB_0 _) ?_
      refine r_istore_n (lv2 := [_, _, _, _, none, none, none]) 42 dX3_could_42 (by decide) rfl rfl ?_
      refine r_iconst (v := 0) 43 dX3_could_43 (by decide) ?_
      refine r_ti (y := nI 0) (nI_0.symm) ?_
      refine r_istore (lv2 := [_, _, _, _, _, none, none]) 44 dX3_could_44 (by decide) rfl rfl ?_
      exact lp_mcould1 hS hz hF (sP S + 1) 0 (by omega) (by omega)
    · -- 36F
      have hz : (oG S (sqB S)) (mN (sqB S) 16) = 0 := (i64_eq0 (hF _ h1 (Nat.le_refl _))).mp ((lg_cmp_eq _ _).mp c_36)
      refine r_iconst (v := 0) 39 dX3_could_39 (by decide) ?_
      exact r_iret 40 dX3_could_40 rfl rfl (Nat.le_of_ble_eq_true rfl) (Nat.le_of_ble_eq_true rfl) (⟨_, by rw [if_pos hz], rfl⟩)
  · -- 19F
    have h0 : mN (sqB S) 16 = 0 := (nI_z (Nat.lt_trans (mN_16 _) (by decide))).mp c_19
    have hz : (oG S (sqB S)) (mN (sqB S) 16) = 0 := by rw [h0, oG_0]
    refine r_iconst (v := 0) 22 dX3_could_22 (by decide) ?_
    exact r_iret 23 dX3_could_23 rfl rfl (Nat.le_of_ble_eq_true rfl) (Nat.le_of_ble_eq_true rfl) (⟨_, by rw [if_pos hz], rfl⟩)
set_option maxRecDepth 100000 in
set_option maxHeartbeats 400000 in
theorem m_couldO {G : jG} {d : Nat} {m : Nat} {A : Nat → Nat} {S : qS} {pm se th ka iw : Int32} {u : Int32} (h : ¬ (0 ≤ u ∧ u ≤ 1)) : Ct G yX3_could cX3_could 7 (some .int) (d + 4) 0 0 [.ref m, .int u] (wX G m A S pm se th ka iw) (jD (some (.int (-2))) (wX G m A S pm se th ka iw)) := by
  refine ct_of (by decide) (Nat.le_of_ble_eq_true rfl) (own := RX3) (nm := "could") rfl rfl (lv := [some (.ref m), some (.int u), none, none, none, none, none]) rfl ?_
  refine r_iload_n 0 dX3_could_0 rfl ?_
  refine r_i2l 1 dX3_could_1 ?_
  refine r_lconst (v := 0) 2 dX3_could_2 (by decide) ?_
  refine r_lconst (v := 1) 3 dX3_could_3 (by decide) ?_
  refine r_sta (st2 := [.long (1 : Int32).toInt64, .long (0 : Int32).toInt64, .long u.toInt64]) rfl ?_
  refine r_callSD (ws2 := [_, _, _, _]) (wr := [_, _, _, _]) 4 s_X3_79 dX3_could_4 (m_in0 h) rfl rfl [] [0, 1, 2, 3] rfl rfl rfl rfl (by decide) jRm_ok (Nat.le_of_ble_eq_true rfl) ⟨(Nat.le_of_ble_eq_true rfl), (Nat.le_of_ble_eq_true rfl)⟩ [0, 1, 2, 3] rfl rfl ?_
  refine r_if_neF 7 13 dX3_could_7 (by decide) (by decide) ?_
  refine r_bipush (v := -2) 10 dX3_could_10 (by decide) ?_
  exact r_iret 12 dX3_could_12 rfl rfl (Nat.le_of_ble_eq_true rfl) (Nat.le_of_ble_eq_true rfl) (jd rfl)
