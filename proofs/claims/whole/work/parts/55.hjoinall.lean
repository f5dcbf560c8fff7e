theorem thN_99 {S : qS} (hS : wf S) {p r : Nat} : thN S p r ≤ 99 := by
  have := hS.kon
  unfold thN
  split <;> omega
set_option maxRecDepth 100000 in
set_option maxHeartbeats 400000 in
theorem lp_jaI {G : jG} {d : Nat} {x q t ai b pa ql qh : Nat} {sg : Int32} {ov : Value} {S T : qS} {tl th : Nat} (hT : wf T) {thr j0 : Nat} {i : Int32} (hthr : thr < 1000) (hj0 : j0 < 1000) {k : Nat} (hk : k < sP T) : ∀ (n : Nat) (s : Nat), 3 ≤ s + n → s ≤ 2 → (Rn G RX2 "joinAll" cX2_joinAll 9 (some .int) (jR (d + 6) 0 0) jX0 (jE G (jD (some (.int (jaS T thr j0 i (2 * sP T)).2.2)) (hX x q t ai b pa sg ov :: (wS G q ql qh (S) ++ wS G t tl th ((jaS T thr j0 i (2 * sP T)).1)))) 0 0) 0 0 117 [some (.ref x), some (.int (nI thr)), some (.int (nI j0)), some (.int i), some (.int (nI (jaS T thr j0 i (2 * k + 2)).2.1)), some (.int (jaS T thr j0 i (2 * k + 2)).2.2), some (.int (nI k)), some (.int (nI 2)), none] [] (hX x q t ai b pa sg ov :: (wS G q ql qh (S) ++ wS G t tl th ((jaS T thr j0 i (2 * k + 2)).1)))) → Rn G RX2 "joinAll" cX2_joinAll 9 (some .int) (jR (d + 6) 0 0) jX0 (jE G (jD (some (.int (jaS T thr j0 i (2 * sP T)).2.2)) (hX x q t ai b pa sg ov :: (wS G q ql qh (S) ++ wS G t tl th ((jaS T thr j0 i (2 * sP T)).1)))) 0 0) 0 0 25 [some (.ref x), some (.int (nI thr)), some (.int (nI j0)), some (.int i), some (.int (nI (jaS T thr j0 i (2 * k + s)).2.1)), some (.int (jaS T thr j0 i (2 * k + s)).2.2), some (.int (nI k)), some (.int (nI s)), none] [] (hX x q t ai b pa sg ov :: (wS G q ql qh (S) ++ wS G t tl th ((jaS T thr j0 i (2 * k + s)).1))) := by
  intro n
  induction n with
  | zero => intros; omega
  | succ n ih =>
    intro s h1 h2 K
    have hw := ja_wf hT (thr := thr) (j0 := j0) (i := i) (2 * k + s)
    have hjj := ja_j (S := T) (thr := thr) (j0 := j0) (i := i) (2 * k + s)
    have hsm := ja_same (S := T) (thr := thr) (j0 := j0) (i := i) (2 * k + s)
    have h16 := hT.p16
    have hC : sC (jaS T thr j0 i (2 * k + s)).1 = sC T := by unfold sC; rw [hsm.1]
    have hPe : sP (jaS T thr j0 i (2 * k + s)).1 = sP T := by unfold sP sR sC; rw [hsm.1]
    have hCr := hT.c
    refine r_iload 25 dX2_joinAll_25 rfl ?_
    refine r_iconst (v := 2) 27 dX2_joinAll_27 (by decide) ?_
    refine r_icmp_geN (b := 2) 28 117 dX2_joinAll_28 (by decide) (by omega) (by decide) (fun c_28 => ?_) (fun c_28 => ?_)
    · -- 28T
      obtain rfl : s = 2 := by omega
      exact K
    · -- 28F
      have hk2 : (2 * k + s) / 2 = k := by omega
      refine r_iload 31 dX2_joinAll_31 rfl ?_
      refine r_if_ne 33 43 dX2_joinAll_33 (by decide) (fun c_33 => ?_) (fun c_33 => ?_)
      · -- 33T
        have hs1 : s = 1 := by
          rcases Nat.eq_zero_or_pos s with z | z
          · exact absurd (by rw [z]; rfl) c_33
          · omega
        have hq : nI k + nI (sC (jaS T thr j0 i (2 * k + s)).1) = nI (jqN T (2 * k + s)) := by
          rw [hC]
          refine (Int32.ofNat_add k (sC T)).symm.trans (congrArg nI ?_)
          unfold jqN
          rw [if_neg (by omega), hk2]
        refine r_iload 43 dX2_joinAll_43 rfl ?_
        refine r_aload_n 45 dX2_joinAll_45 rfl ?_
        refine r_get 46 f_X2_16 dX2_joinAll_46 0 rfl rfl ?_
        refine r_get 49 f_X2_207 dX2_joinAll_49 4 rfl rfl ?_
        refine r_iadd 52 dX2_joinAll_52 ?_
        refine r_ti (y := nI (jqN T (2 * k + s))) hq ?_
        refine r_istore (lv2 := [_, _, _, _, _, _, _, _, _]) 53 dX2_joinAll_53 (by decide) rfl rfl ?_
        refine r_aload_n 55 dX2_joinAll_55 rfl ?_
        refine r_iload 56 dX2_joinAll_56 rfl ?_
        refine r_iload 58 dX2_joinAll_58 rfl ?_
        refine r_callVD (ws2 := [_, _, _, _, _, _, _]) (wr := []) 60 s_X2_210 dX2_joinAll_60 (h_joins (T := (jaS T thr j0 i (2 * k + s)).1) hw (p := k) (r := (jqN T (2 * k + s))) (by omega) (by unfold jqN; split <;> omega)) rfl rfl 0 rfl rfl rfl [0, 1, 2, 3, 4, 5, 6] [] rfl rfl rfl rfl (by decide) jRm_ok (Nat.le_of_ble_eq_true rfl) ⟨(Nat.le_of_ble_eq_true rfl), (Nat.le_of_ble_eq_true rfl)⟩ [0, 1, 2, 3, 4, 5, 6] rfl rfl ?_
        refine r_if_eqB 63 111 dX2_joinAll_63 (by decide) (fun c_63 => ?_) (fun c_63 => ?_)
        · -- 63T
          have hno : ¬ (jpB (jaS T thr j0 i (2 * k + s)).1 ((2 * k + s) / 2) (jqN T (2 * k + s)) = true ∧ thN (jaS T thr j0 i (2 * k + s)).1 ((2 * k + s) / 2) (jqN T (2 * k + s)) = thr) := fun z => c_63 (by rw [hk2] at z; exact z.1)
          refine r_iinc (lv2 := [_, _, _, _, _, _, _, _, _]) 111 dX2_joinAll_111 rfl (jinc) (by decide) rfl rfl ?_
          refine r_goto 114 25 dX2_joinAll_114 (by decide) ?_
          refine r_drop (lv2 := [_, _, _, _, _, _, _, _, none]) 8 rfl ?_
          have hih := ih (s + 1) (by omega) (by omega) K
          rw [show 2 * k + (s + 1) = 2 * k + s + 1 from rfl] at hih
          first
          | (rw [ja_2 hno] at hih; exact hih)
          | (rw [ja_1 hy1 hy2, hk2, hith] at hih; exact hih)
        · -- 63F
          have hqP := (jp_iff.mp c_63).1.1.1
          rw [hPe] at hqP
          obtain ⟨hnb, hf1, hf2, hen⟩ := jp_nb c_63
          have hth := thN_99 hw (p := k) (r := (jqN T (2 * k + s)))
          refine r_aload_n 66 dX2_joinAll_66 rfl ?_
          refine r_get 67 f_X2_16 dX2_joinAll_67 0 rfl rfl ?_
          refine r_iload 70 dX2_joinAll_70 rfl ?_
          refine r_iload 72 dX2_joinAll_72 rfl ?_
          refine r_callVD (ws2 := [_, _, _, _, _, _, _]) (wr := [_, _, _, _]) 74 s_X2_112 dX2_joinAll_74 (c_X1_threadOf (S := (jaS T thr j0 i (2 * k + s)).1) hw (p := k) (r := (jqN T (2 * k + s))) (by omega) (by omega)) rfl rfl 0 rfl rfl rfl [4, 5, 6] [0, 1, 2, 3] rfl rfl rfl rfl (by decide) jRm_ok (Nat.le_of_ble_eq_true rfl) ⟨(Nat.le_of_ble_eq_true rfl), (Nat.le_of_ble_eq_true rfl)⟩ [0, 1, 2, 3, 4, 5, 6] rfl rfl ?_
          refine r_iload_n 77 dX2_joinAll_77 rfl ?_
          refine r_icmp_ne 78 111 dX2_joinAll_78 (by decide) (fun c_78 => ?_) (fun c_78 => ?_)
          · -- 78T
            have hno : ¬ (jpB (jaS T thr j0 i (2 * k + s)).1 ((2 * k + s) / 2) (jqN T (2 * k + s)) = true ∧ thN (jaS T thr j0 i (2 * k + s)).1 ((2 * k + s) / 2) (jqN T (2 * k + s)) = thr) := fun z => c_78 (by rw [hk2] at z; rw [z.2])
            refine r_iinc (lv2 := [_, _, _, _, _, _, _, _, _]) 111 dX2_joinAll_111 rfl (jinc) (by decide) rfl rfl ?_
            refine r_goto 114 25 dX2_joinAll_114 (by decide) ?_
            refine r_drop (lv2 := [_, _, _, _, _, _, _, _, none]) 8 rfl ?_
            have hih := ih (s + 1) (by omega) (by omega) K
            rw [show 2 * k + (s + 1) = 2 * k + s + 1 from rfl] at hih
            first
            | (rw [ja_2 hno] at hih; exact hih)
            | (rw [ja_1 hy1 hy2, hk2, hith] at hih; exact hih)
          · -- 78F
            have hthe : thN (jaS T thr j0 i (2 * k + s)).1 k (jqN T (2 * k + s)) = thr := (nI_eq (by omega) (by omega)).mp c_78
            have hy1 : jpB (jaS T thr j0 i (2 * k + s)).1 ((2 * k + s) / 2) (jqN T (2 * k + s)) = true := by rw [hk2]; exact c_63
            have hy2 : thN (jaS T thr j0 i (2 * k + s)).1 ((2 * k + s) / 2) (jqN T (2 * k + s)) = thr := by rw [hk2]; exact hthe
            refine r_aload_n 81 dX2_joinAll_81 rfl ?_
            refine r_get 82 f_X2_16 dX2_joinAll_82 0 rfl rfl ?_
            refine r_iload 85 dX2_joinAll_85 rfl ?_
            refine r_iload 87 dX2_joinAll_87 rfl ?_
            refine r_callVD (ws2 := [_, _, _, _, _, _, _]) (wr := [_, _, _, _]) 89 s_X2_109 dX2_joinAll_89 (c_X1_join (S := (jaS T thr j0 i (2 * k + s)).1) hw (show k < 16 by omega) (show (jqN T (2 * k + s)) < 16 by omega) hnb) rfl rfl 0 rfl rfl rfl [4, 5, 6] [0, 1, 2, 3] rfl rfl rfl rfl (by decide) jRm_ok (Nat.le_of_ble_eq_true rfl) ⟨(Nat.le_of_ble_eq_true rfl), (Nat.le_of_ble_eq_true rfl)⟩ [0, 1, 2, 3, 4, 5, 6] rfl rfl ?_
            refine r_iload 92 dX2_joinAll_92 rfl ?_
            refine r_iload_n 94 dX2_joinAll_94 rfl ?_
            refine r_icmp_ne 95 108 dX2_joinAll_95 (by decide) (fun c_95 => ?_) (fun c_95 => ?_)
            · -- 95T
              have hith : (if nI (jaS T thr j0 i (2 * k + s)).2.1 = i then nI (16 * k + (jqN T (2 * k + s))) else (jaS T thr j0 i (2 * k + s)).2.2) = (jaS T thr j0 i (2 * k + s)).2.2 := if_neg c_95
              refine r_iinc (lv2 := [_, _, _, _, _, _, _, _, _]) 108 dX2_joinAll_108 rfl (jinc) (by decide) rfl rfl ?_
              refine r_iinc (lv2 := [_, _, _, _, _, _, _, _, _]) 111 dX2_joinAll_111 rfl (jinc) (by decide) rfl rfl ?_
              refine r_goto 114 25 dX2_joinAll_114 (by decide) ?_
              refine r_drop (lv2 := [_, _, _, _, _, _, _, _, none]) 8 rfl ?_
              have hih := ih (s + 1) (by omega) (by omega) K
              rw [show 2 * k + (s + 1) = 2 * k + s + 1 from rfl] at hih
              first
              | (rw [ja_2 hno] at hih; exact hih)
              | (rw [ja_1 hy1 hy2, hk2, hith] at hih; exact hih)
            · -- 95F
              have hith : (if nI (jaS T thr j0 i (2 * k + s)).2.1 = i then nI (16 * k + (jqN T (2 * k + s))) else (jaS T thr j0 i (2 * k + s)).2.2) = nI (16 * k + (jqN T (2 * k + s))) := if_pos c_95
              refine r_bipush (v := 16) 98 dX2_joinAll_98 (by decide) ?_
              refine r_iload 100 dX2_joinAll_100 rfl ?_
              refine r_imul 102 dX2_joinAll_102 ?_
              refine r_ti (y := nI (16 * k)) (pk_mul 16 _) ?_
              refine r_iload 103 dX2_joinAll_103 rfl ?_
              refine r_iadd 105 dX2_joinAll_105 ?_
              refine r_ti (y := nI (16 * k + (jqN T (2 * k + s)))) ((Int32.ofNat_add _ _).symm) ?_
              refine r_istore (lv2 := [_, _, _, _, _, _, _, _, _]) 106 dX2_joinAll_106 (by decide) rfl rfl ?_
              refine r_iinc (lv2 := [_, _, _, _, _, _, _, _, _]) 108 dX2_joinAll_108 rfl (jinc) (by decide) rfl rfl ?_
              refine r_iinc (lv2 := [_, _, _, _, _, _, _, _, _]) 111 dX2_joinAll_111 rfl (jinc) (by decide) rfl rfl ?_
              refine r_goto 114 25 dX2_joinAll_114 (by decide) ?_
              refine r_drop (lv2 := [_, _, _, _, _, _, _, _, none]) 8 rfl ?_
              have hih := ih (s + 1) (by omega) (by omega) K
              rw [show 2 * k + (s + 1) = 2 * k + s + 1 from rfl] at hih
              first
              | (rw [ja_2 hno] at hih; exact hih)
              | (rw [ja_1 hy1 hy2, hk2, hith] at hih; exact hih)
      · -- 33F
        have hs0 : s = 0 := (nI_z (by omega)).mp c_33
        have hq : nI k + 1 = nI (jqN T (2 * k + s)) := by
          unfold jqN
          rw [if_pos (by omega), hk2]
          exact nI_1 _
        refine r_iload 36 dX2_joinAll_36 rfl ?_
        refine r_iconst (v := 1) 38 dX2_joinAll_38 (by decide) ?_
        refine r_iadd 39 dX2_joinAll_39 ?_
        refine r_goto 40 53 dX2_joinAll_40 (by decide) ?_
        refine r_ti (y := nI (jqN T (2 * k + s))) hq ?_
        refine r_istore (lv2 := [_, _, _, _, _, _, _, _, _]) 53 dX2_joinAll_53 (by decide) rfl rfl ?_
        refine r_aload_n 55 dX2_joinAll_55 rfl ?_
        refine r_iload 56 dX2_joinAll_56 rfl ?_
        refine r_iload 58 dX2_joinAll_58 rfl ?_
        refine r_callVD (ws2 := [_, _, _, _, _, _, _]) (wr := []) 60 s_X2_210 dX2_joinAll_60 (h_joins (T := (jaS T thr j0 i (2 * k + s)).1) hw (p := k) (r := (jqN T (2 * k + s))) (by omega) (by unfold jqN; split <;> omega)) rfl rfl 0 rfl rfl rfl [0, 1, 2, 3, 4, 5, 6] [] rfl rfl rfl rfl (by decide) jRm_ok (Nat.le_of_ble_eq_true rfl) ⟨(Nat.le_of_ble_eq_true rfl), (Nat.le_of_ble_eq_true rfl)⟩ [0, 1, 2, 3, 4, 5, 6] rfl rfl ?_
        refine r_if_eqB 63 111 dX2_joinAll_63 (by decide) (fun c_63 => ?_) (fun c_63 => ?_)
        · -- 63T
          have hno : ¬ (jpB (jaS T thr j0 i (2 * k + s)).1 ((2 * k + s) / 2) (jqN T (2 * k + s)) = true ∧ thN (jaS T thr j0 i (2 * k + s)).1 ((2 * k + s) / 2) (jqN T (2 * k + s)) = thr) := fun z => c_63 (by rw [hk2] at z; exact z.1)
          refine r_iinc (lv2 := [_, _, _, _, _, _, _, _, _]) 111 dX2_joinAll_111 rfl (jinc) (by decide) rfl rfl ?_
          refine r_goto 114 25 dX2_joinAll_114 (by decide) ?_
          refine r_drop (lv2 := [_, _, _, _, _, _, _, _, none]) 8 rfl ?_
          have hih := ih (s + 1) (by omega) (by omega) K
          rw [show 2 * k + (s + 1) = 2 * k + s + 1 from rfl] at hih
          first
          | (rw [ja_2 hno] at hih; exact hih)
          | (rw [ja_1 hy1 hy2, hk2, hith] at hih; exact hih)
        · -- 63F
          have hqP := (jp_iff.mp c_63).1.1.1
          rw [hPe] at hqP
          obtain ⟨hnb, hf1, hf2, hen⟩ := jp_nb c_63
          have hth := thN_99 hw (p := k) (r := (jqN T (2 * k + s)))
          refine r_aload_n 66 dX2_joinAll_66 rfl ?_
          refine r_get 67 f_X2_16 dX2_joinAll_67 0 rfl rfl ?_
          refine r_iload 70 dX2_joinAll_70 rfl ?_
          refine r_iload 72 dX2_joinAll_72 rfl ?_
          refine r_callVD (ws2 := [_, _, _, _, _, _, _]) (wr := [_, _, _, _]) 74 s_X2_112 dX2_joinAll_74 (c_X1_threadOf (S := (jaS T thr j0 i (2 * k + s)).1) hw (p := k) (r := (jqN T (2 * k + s))) (by omega) (by omega)) rfl rfl 0 rfl rfl rfl [4, 5, 6] [0, 1, 2, 3] rfl rfl rfl rfl (by decide) jRm_ok (Nat.le_of_ble_eq_true rfl) ⟨(Nat.le_of_ble_eq_true rfl), (Nat.le_of_ble_eq_true rfl)⟩ [0, 1, 2, 3, 4, 5, 6] rfl rfl ?_
          refine r_iload_n 77 dX2_joinAll_77 rfl ?_
          refine r_icmp_ne 78 111 dX2_joinAll_78 (by decide) (fun c_78 => ?_) (fun c_78 => ?_)
          · -- 78T
            have hno : ¬ (jpB (jaS T thr j0 i (2 * k + s)).1 ((2 * k + s) / 2) (jqN T (2 * k + s)) = true ∧ thN (jaS T thr j0 i (2 * k + s)).1 ((2 * k + s) / 2) (jqN T (2 * k + s)) = thr) := fun z => c_78 (by rw [hk2] at z; rw [z.2])
            refine r_iinc (lv2 := [_, _, _, _, _, _, _, _, _]) 111 dX2_joinAll_111 rfl (jinc) (by decide) rfl rfl ?_
            refine r_goto 114 25 dX2_joinAll_114 (by decide) ?_
            refine r_drop (lv2 := [_, _, _, _, _, _, _, _, none]) 8 rfl ?_
            have hih := ih (s + 1) (by omega) (by omega) K
            rw [show 2 * k + (s + 1) = 2 * k + s + 1 from rfl] at hih
            first
            | (rw [ja_2 hno] at hih; exact hih)
            | (rw [ja_1 hy1 hy2, hk2, hith] at hih; exact hih)
          · -- 78F
            have hthe : thN (jaS T thr j0 i (2 * k + s)).1 k (jqN T (2 * k + s)) = thr := (nI_eq (by omega) (by omega)).mp c_78
            have hy1 : jpB (jaS T thr j0 i (2 * k + s)).1 ((2 * k + s) / 2) (jqN T (2 * k + s)) = true := by rw [hk2]; exact c_63
            have hy2 : thN (jaS T thr j0 i (2 * k + s)).1 ((2 * k + s) / 2) (jqN T (2 * k + s)) = thr := by rw [hk2]; exact hthe
            refine r_aload_n 81 dX2_joinAll_81 rfl ?_
            refine r_get 82 f_X2_16 dX2_joinAll_82 0 rfl rfl ?_
            refine r_iload 85 dX2_joinAll_85 rfl ?_
            refine r_iload 87 dX2_joinAll_87 rfl ?_
            refine r_callVD (ws2 := [_, _, _, _, _, _, _]) (wr := [_, _, _, _]) 89 s_X2_109 dX2_joinAll_89 (c_X1_join (S := (jaS T thr j0 i (2 * k + s)).1) hw (show k < 16 by omega) (show (jqN T (2 * k + s)) < 16 by omega) hnb) rfl rfl 0 rfl rfl rfl [4, 5, 6] [0, 1, 2, 3] rfl rfl rfl rfl (by decide) jRm_ok (Nat.le_of_ble_eq_true rfl) ⟨(Nat.le_of_ble_eq_true rfl), (Nat.le_of_ble_eq_true rfl)⟩ [0, 1, 2, 3, 4, 5, 6] rfl rfl ?_
            refine r_iload 92 dX2_joinAll_92 rfl ?_
            refine r_iload_n 94 dX2_joinAll_94 rfl ?_
            refine r_icmp_ne 95 108 dX2_joinAll_95 (by decide) (fun c_95 => ?_) (fun c_95 => ?_)
            · -- 95T
              have hith : (if nI (jaS T thr j0 i (2 * k + s)).2.1 = i then nI (16 * k + (jqN T (2 * k + s))) else (jaS T thr j0 i (2 * k + s)).2.2) = (jaS T thr j0 i (2 * k + s)).2.2 := if_neg c_95
              refine r_iinc (lv2 := [_, _, _, _, _, _, _, _, _]) 108 dX2_joinAll_108 rfl (jinc) (by decide) rfl rfl ?_
              refine r_iinc (lv2 := [_, _, _, _, _, _, _, _, _]) 111 dX2_joinAll_111 rfl (jinc) (by decide) rfl rfl ?_
              refine r_goto 114 25 dX2_joinAll_114 (by decide) ?_
              refine r_drop (lv2 := [_, _, _, _, _, _, _, _, none]) 8 rfl ?_
              have hih := ih (s + 1) (by omega) (by omega) K
              rw [show 2 * k + (s + 1) = 2 * k + s + 1 from rfl] at hih
              first
              | (rw [ja_2 hno] at hih; exact hih)
              | (rw [ja_1 hy1 hy2, hk2, hith] at hih; exact hih)
            · -- 95F
              have hith : (if nI (jaS T thr j0 i (2 * k + s)).2.1 = i then nI (16 * k + (jqN T (2 * k + s))) else (jaS T thr j0 i (2 * k + s)).2.2) = nI (16 * k + (jqN T (2 * k + s))) := if_pos c_95
              refine r_bipush (v := 16) 98 dX2_joinAll_98 (by decide) ?_
              refine r_iload 100 dX2_joinAll_100 rfl ?_
              refine r_imul 102 dX2_joinAll_102 ?_
              refine r_ti (y := nI (16 * k)) (pk_mul 16 _) ?_
              refine r_iload 103 dX2_joinAll_103 rfl ?_
              refine r_iadd 105 dX2_joinAll_105 ?_
              refine r_ti (y := nI (16 * k + (jqN T (2 * k + s)))) ((Int32.ofNat_add _ _).symm) ?_
              refine r_istore (lv2 := [_, _, _, _, _, _, _, _, _]) 106 dX2_joinAll_106 (by decide) rfl rfl ?_
              refine r_iinc (lv2 := [_, _, _, _, _, _, _, _, _]) 108 dX2_joinAll_108 rfl (jinc) (by decide) rfl rfl ?_
              refine r_iinc (lv2 := [_, _, _, _, _, _, _, _, _]) 111 dX2_joinAll_111 rfl (jinc) (by decide) rfl rfl ?_
              refine r_goto 114 25 dX2_joinAll_114 (by decide) ?_
              refine r_drop (lv2 := [_, _, _, _, _, _, _, _, none]) 8 rfl ?_
              have hih := ih (s + 1) (by omega) (by omega) K
              rw [show 2 * k + (s + 1) = 2 * k + s + 1 from rfl] at hih
              first
              | (rw [ja_2 hno] at hih; exact hih)
              | (rw [ja_1 hy1 hy2, hk2, hith] at hih; exact hih)
set_option maxRecDepth 100000 in
set_option maxHeartbeats 400000 in
theorem lp_jaO {G : jG} {d : Nat} {x q t ai b pa ql qh : Nat} {sg : Int32} {ov : Value} {S T : qS} {tl th : Nat} (hT : wf T) {thr j0 : Nat} {i : Int32} (hthr : thr < 1000) (hj0 : j0 < 1000) : ∀ (n : Nat) (k : Nat), sP T + 1 ≤ k + n → k ≤ sP T → Rn G RX2 "joinAll" cX2_joinAll 9 (some .int) (jR (d + 6) 0 0) jX0 (jE G (jD (some (.int (jaS T thr j0 i (2 * sP T)).2.2)) (hX x q t ai b pa sg ov :: (wS G q ql qh (S) ++ wS G t tl th ((jaS T thr j0 i (2 * sP T)).1)))) 0 0) 0 0 10 [some (.ref x), some (.int (nI thr)), some (.int (nI j0)), some (.int i), some (.int (nI (jaS T thr j0 i (2 * k)).2.1)), some (.int (jaS T thr j0 i (2 * k)).2.2), some (.int (nI k)), none, none] [] (hX x q t ai b pa sg ov :: (wS G q ql qh (S) ++ wS G t tl th ((jaS T thr j0 i (2 * k)).1))) := by
  intro n
  induction n with
  | zero => intros; omega
  | succ n ih =>
    intro k h1 h2
    have hsm := ja_same (S := T) (thr := thr) (j0 := j0) (i := i) (2 * k)
    have h16 := hT.p16
    have hPe : sP (jaS T thr j0 i (2 * k)).1 = sP T := by unfold sP sR sC; rw [hsm.1]
    refine r_iload 10 dX2_joinAll_10 rfl ?_
    refine r_aload_n 12 dX2_joinAll_12 rfl ?_
    refine r_get 13 f_X2_16 dX2_joinAll_13 0 rfl rfl ?_
    refine r_callVD (ws2 := [_, _, _, _, _, _, _]) (wr := [_, _, _, _]) 16 s_X2_50 dX2_joinAll_16 (q_places (S := (jaS T thr j0 i (2 * k)).1)) rfl rfl 0 rfl rfl rfl [4, 5, 6] [0, 1, 2, 3] rfl rfl rfl rfl (by decide) jRm_ok (Nat.le_of_ble_eq_true rfl) ⟨(Nat.le_of_ble_eq_true rfl), (Nat.le_of_ble_eq_true rfl)⟩ [0, 1, 2, 3, 4, 5, 6] rfl rfl ?_
    refine r_ti (y := nI (sP T)) (by rw [hPe]) ?_
    refine r_icmp_geN 19 123 dX2_joinAll_19 (by decide) (by omega) (by omega) (fun c_19 => ?_) (fun c_19 => ?_)
    · -- 19T
      obtain rfl : k = sP T := by omega
      refine r_iload 123 dX2_joinAll_123 rfl ?_
      exact r_iret 125 dX2_joinAll_125 rfl rfl (Nat.le_of_ble_eq_true rfl) (Nat.le_of_ble_eq_true rfl) (jd rfl)
    · -- 19F
      refine r_iconst (v := 0) 22 dX2_joinAll_22 (by decide) ?_
      refine r_ti (y := nI 0) (nI_0.symm) ?_
      refine r_istore (lv2 := [_, _, _, _, _, _, _, _, none]) 23 dX2_joinAll_23 (by decide) rfl rfl ?_
      refine lp_jaI hT hthr hj0 (k := k) (by omega) 3 0 (by omega) (by omega) ?_
      refine r_iinc (lv2 := [_, _, _, _, _, _, _, _, none]) 117 dX2_joinAll_117 rfl (jinc) (by decide) rfl rfl ?_
      refine r_goto 120 10 dX2_joinAll_120 (by decide) ?_
      refine r_drop (lv2 := [_, _, _, _, _, _, _, none, none]) 7 rfl ?_
      exact ih (k + 1) (by omega) (by omega)
set_option maxRecDepth 100000 in
set_option maxHeartbeats 400000 in
theorem h_joinAll {G : jG} {d : Nat} {x q t ai b pa ql qh : Nat} {sg : Int32} {ov : Value} {S T : qS} {tl th : Nat} (hT : wf T) {thr j0 : Nat} {i : Int32} (hthr : thr < 1000) (hj0 : j0 < 1000) : Ct G yX2_joinAll cX2_joinAll 9 (some .int) (d + 6) 0 0 [.ref x, .int (nI thr), .int (nI j0), .int i] (hX x q t ai b pa sg ov :: (wS G q ql qh (S) ++ wS G t tl th (T))) (jD (some (.int (jaS T thr j0 i (2 * sP T)).2.2)) (hX x q t ai b pa sg ov :: (wS G q ql qh (S) ++ wS G t tl th ((jaS T thr j0 i (2 * sP T)).1)))) := by
  refine ct_of (by decide) (Nat.le_of_ble_eq_true rfl) (own := RX2) (nm := "joinAll") rfl rfl (lv := [some (.ref x), some (.int (nI thr)), some (.int (nI j0)), some (.int i), none, none, none, none, none]) rfl ?_
  refine r_iload_n 0 dX2_joinAll_0 rfl ?_
  refine r_istore (lv2 := [_, _, _, _, _, none, none, none, none]) 1 dX2_joinAll_1 (by decide) rfl rfl ?_
  refine r_bipush (v := -6) 3 dX2_joinAll_3 (by decide) ?_
  refine r_istore (lv2 := [_, _, _, _, _, _, none, none, none]) 5 dX2_joinAll_5 (by decide) rfl rfl ?_
  refine r_iconst (v := 0) 7 dX2_joinAll_7 (by decide) ?_
  refine r_ti (y := nI 0) (nI_0.symm) ?_
  refine r_istore (lv2 := [_, _, _, _, _, _, _, none, none]) 8 dX2_joinAll_8 (by decide) rfl rfl ?_
  exact lp_jaO hT hthr hj0 (sP T + 1) 0 (by omega) (by omega)
