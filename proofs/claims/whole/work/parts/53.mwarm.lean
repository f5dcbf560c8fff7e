def nyB (S : qS) (y : Nat → Nat) (p q : Nat) : Bool := !decide (y q = 0) && nbB S p q
def awB (S : qS) (y : Nat → Nat) : Nat → Bool
  | 0 => true
  | p + 1 => awB S y p && (decide (y p = 0) || decide (sN S ≤ cnt (nyB S y p) (sP S)))
theorem aw_s (S : qS) (y : Nat → Nat) (p : Nat) : awB S y (p + 1) = (awB S y p && (decide (y p = 0) || decide (sN S ≤ cnt (nyB S y p) (sP S)))) := rfl
theorem ny_0 {S : qS} {y : Nat → Nat} {p k : Nat} (h : nyB S y p k = false) : nI (cnt (nyB S y p) k) + 0 = nI (cnt (nyB S y p) (k + 1)) := by
  rw [show cnt (nyB S y p) (k + 1) = cnt (nyB S y p) k + (if nyB S y p k then 1 else 0) from rfl, h]
  exact Int32.add_zero _
theorem ny_1 {S : qS} {y : Nat → Nat} {p k : Nat} (h : nyB S y p k = true) : nI (cnt (nyB S y p) k) + 1 = nI (cnt (nyB S y p) (k + 1)) := by
  rw [show cnt (nyB S y p) (k + 1) = cnt (nyB S y p) k + (if nyB S y p k then 1 else 0) from rfl, h]
  exact nI_1 _
theorem aw_1 {S : qS} {y : Nat → Nat} {p : Nat} (h : ¬ awB S y p = true) : (0 : Int32) = bP (awB S y (p + 1) = true) := (bP_f (by rw [aw_s, (Bool.not_eq_true _).mp h, Bool.false_and]; decide)).symm
theorem aw_2 {S : qS} {y : Nat → Nat} {p : Nat} (h : awB S y p = true) (h2 : y p = 0) : (1 : Int32) = bP (awB S y (p + 1) = true) := (bP_t (by rw [aw_s, h, decide_eq_true h2]; rfl)).symm
theorem aw_3 {S : qS} {y : Nat → Nat} {p : Nat} (h : awB S y p = true) (h2 : sN S ≤ cnt (nyB S y p) (sP S)) : (1 : Int32) = bP (awB S y (p + 1) = true) := (bP_t (by rw [aw_s, h, decide_eq_true h2, Bool.or_true]; rfl)).symm
theorem aw_4 {S : qS} {y : Nat → Nat} {p : Nat} (h : ¬ y p = 0) (h2 : cnt (nyB S y p) (sP S) < sN S) : (0 : Int32) = bP (awB S y (p + 1) = true) := (bP_f (by rw [aw_s, decide_eq_false h, decide_eq_false (Nat.not_le.mpr h2)]; cases awB S y p <;> decide)).symm
set_option maxRecDepth 100000 in
set_option maxHeartbeats 400000 in
theorem lp_awI {G : jG} {d : Nat} {m : Nat} {A : Nat → Nat} {S : qS} {pm se th ka iw : Int32} (hS : wf S) (hP : sP S ≤ 9) {y : Nat → Nat} {g : Nat → Int32} (hy : ∀ q, q < sP S → g q = nI (y q) ∧ y q ≤ 4) {p : Nat} (hp : p < sP S) : ∀ (n : Nat) (k : Nat), sP S + 1 ≤ k + n → k ≤ sP S → (Rn G RX3 "areWarm" cX3_areWarm 5 (some .boolean) (jR (d + 2) 0 0) jX0 (jE G (jD (some (.int (bP (awB S y (sP S) = true)))) ((wX G m A S pm se th ka iw) ++ [(A 6, .inl (G.2.2.1, 9, .inl (g)))])) 0 0) 0 0 60 [some (.ref m), some (.int (bP (awB S y p = true))), some (.int (nI p)), some (.int (nI (cnt (nyB S y p) (sP S)))), some (.int (nI (sP S)))] [] ((wX G m A S pm se th ka iw) ++ [(A 6, .inl (G.2.2.1, 9, .inl (g)))])) → Rn G RX3 "areWarm" cX3_areWarm 5 (some .boolean) (jR (d + 2) 0 0) jX0 (jE G (jD (some (.int (bP (awB S y (sP S) = true)))) ((wX G m A S pm se th ka iw) ++ [(A 6, .inl (G.2.2.1, 9, .inl (g)))])) 0 0) 0 0 17 [some (.ref m), some (.int (bP (awB S y p = true))), some (.int (nI p)), some (.int (nI (cnt (nyB S y p) k))), some (.int (nI k))] [] ((wX G m A S pm se th ka iw) ++ [(A 6, .inl (G.2.2.1, 9, .inl (g)))]) := by
  intro n
  induction n with
  | zero => intros; omega
  | succ n ih =>
    intro k h1 h2 K
    refine r_iload 17 dX3_areWarm_17 rfl ?_
    refine r_aload_n 19 dX3_areWarm_19 rfl ?_
    refine r_callVD (ws2 := [_, _, _, _, _]) (wr := [_]) 20 s_X3_75 dX3_areWarm_20 (m_places) rfl rfl 0 rfl rfl rfl [0, 1, 2, 3] [4] rfl rfl rfl rfl (by decide) jRm_ok (Nat.le_of_ble_eq_true rfl) ⟨(Nat.le_of_ble_eq_true rfl), (Nat.le_of_ble_eq_true rfl)⟩ [1, 2, 3, 4, 0] rfl rfl ?_
    refine r_icmp_geN 23 60 dX3_areWarm_23 (by decide) (by omega) (by omega) (fun c_23 => ?_) (fun c_23 => ?_)
    · -- 23T
      obtain rfl : k = sP S := by omega
      exact K
    · -- 23F
      have hyk := hy k c_23
      refine r_iload_n 26 dX3_areWarm_26 rfl ?_
      refine r_aload_n 27 dX3_areWarm_27 rfl ?_
      refine r_get 28 f_X3_28 dX3_areWarm_28 0 rfl rfl ?_
      refine r_iload 31 dX3_areWarm_31 rfl ?_
      refine r_iaload 33 dX3_areWarm_33 4 rfl (vp_in_nI (by omega) (by decide)) (nI_clamp (by omega)) ?_
      refine r_ti (y := nI (y k)) (hyk.1) ?_
      refine r_if_le 34 51 dX3_areWarm_34 (by decide) (fun c_34 => ?_) (fun c_34 => ?_)
      · -- 34T
        have hy0 : y k = 0 := by
          have := (nI_leI (a := y k) (b := 0) (by omega) (by decide)).mp c_34
          omega
        have hb := ny_0 (S := S) (y := y) (p := p) (k := k) (by unfold nyB; rw [decide_eq_true hy0]; rfl)
        refine r_iconst (v := 0) 51 dX3_areWarm_51 (by decide) ?_
        refine r_iadd 52 dX3_areWarm_52 ?_
        refine r_ti (y := nI (cnt (nyB S y p) (k + 1))) (hb) ?_
        refine r_istore_n (lv2 := [_, _, _, _, _]) 53 dX3_areWarm_53 (by decide) rfl rfl ?_
        refine r_iinc (lv2 := [_, _, _, _, _]) 54 dX3_areWarm_54 rfl (jinc) (by decide) rfl rfl ?_
        refine r_goto 57 17 dX3_areWarm_57 (by decide) ?_
        exact ih (k + 1) (by omega) (by omega) K
      · -- 34F
        have hy0 : ¬ y k = 0 := fun q => c_34 (by rw [q]; decide)
        refine r_aload_n 37 dX3_areWarm_37 rfl ?_
        refine r_iload_n 38 dX3_areWarm_38 rfl ?_
        refine r_iload 39 dX3_areWarm_39 rfl ?_
        refine r_callVD (ws2 := [_, _, _, _, _]) (wr := [_]) 41 s_X3_126 dX3_areWarm_41 (m_areNeighbours hS.g hp (show k < sP S from c_23)) rfl rfl 0 rfl rfl rfl [0, 1, 2, 3] [4] rfl rfl rfl rfl (by decide) jRm_ok (Nat.le_of_ble_eq_true rfl) ⟨(Nat.le_of_ble_eq_true rfl), (Nat.le_of_ble_eq_true rfl)⟩ [1, 2, 3, 4, 0] rfl rfl ?_
        refine r_if_eqB 44 51 dX3_areWarm_44 (by decide) (fun c_44 => ?_) (fun c_44 => ?_)
        · -- 44T
          have hb := ny_0 (S := S) (y := y) (p := p) (k := k) (by unfold nyB; rw [(Bool.not_eq_true _).mp c_44, Bool.and_false])
          refine r_iconst (v := 0) 51 dX3_areWarm_51 (by decide) ?_
          refine r_iadd 52 dX3_areWarm_52 ?_
          refine r_ti (y := nI (cnt (nyB S y p) (k + 1))) (hb) ?_
          refine r_istore_n (lv2 := [_, _, _, _, _]) 53 dX3_areWarm_53 (by decide) rfl rfl ?_
          refine r_iinc (lv2 := [_, _, _, _, _]) 54 dX3_areWarm_54 rfl (jinc) (by decide) rfl rfl ?_
          refine r_goto 57 17 dX3_areWarm_57 (by decide) ?_
          exact ih (k + 1) (by omega) (by omega) K
        · -- 44F
          have hb := ny_1 (S := S) (y := y) (p := p) (k := k) (by unfold nyB; rw [decide_eq_false hy0, c_44]; rfl)
          refine r_iconst (v := 1) 47 dX3_areWarm_47 (by decide) ?_
          refine r_goto 48 52 dX3_areWarm_48 (by decide) ?_
          refine r_iadd 52 dX3_areWarm_52 ?_
          refine r_ti (y := nI (cnt (nyB S y p) (k + 1))) (hb) ?_
          refine r_istore_n (lv2 := [_, _, _, _, _]) 53 dX3_areWarm_53 (by decide) rfl rfl ?_
          refine r_iinc (lv2 := [_, _, _, _, _]) 54 dX3_areWarm_54 rfl (jinc) (by decide) rfl rfl ?_
          refine r_goto 57 17 dX3_areWarm_57 (by decide) ?_
          exact ih (k + 1) (by omega) (by omega) K
set_option maxRecDepth 100000 in
set_option maxHeartbeats 400000 in
theorem lp_aw {G : jG} {d : Nat} {m : Nat} {A : Nat → Nat} {S : qS} {pm se th ka iw : Int32} (hS : wf S) (hP : sP S ≤ 9) {y : Nat → Nat} {g : Nat → Int32} (hy : ∀ q, q < sP S → g q = nI (y q) ∧ y q ≤ 4) : ∀ (n : Nat) (k : Nat), sP S + 1 ≤ k + n → k ≤ sP S → Rn G RX3 "areWarm" cX3_areWarm 5 (some .boolean) (jR (d + 2) 0 0) jX0 (jE G (jD (some (.int (bP (awB S y (sP S) = true)))) ((wX G m A S pm se th ka iw) ++ [(A 6, .inl (G.2.2.1, 9, .inl (g)))])) 0 0) 0 0 4 [some (.ref m), some (.int (bP (awB S y k = true))), some (.int (nI k)), none, none] [] ((wX G m A S pm se th ka iw) ++ [(A 6, .inl (G.2.2.1, 9, .inl (g)))]) := by
  intro n
  induction n with
  | zero => intros; omega
  | succ n ih =>
    intro k h1 h2
    refine r_iload_n 4 dX3_areWarm_4 rfl ?_
    refine r_aload_n 5 dX3_areWarm_5 rfl ?_
    refine r_callVD (ws2 := [_, _, _, _, _]) (wr := [_]) 6 s_X3_75 dX3_areWarm_6 (m_places) rfl rfl 0 rfl rfl rfl [0, 1, 2, 3] [4] rfl rfl rfl rfl (by decide) jRm_ok (Nat.le_of_ble_eq_true rfl) ⟨(Nat.le_of_ble_eq_true rfl), (Nat.le_of_ble_eq_true rfl)⟩ [1, 2, 3, 4, 0] rfl rfl ?_
    refine r_icmp_geN 9 93 dX3_areWarm_9 (by decide) (by omega) (by omega) (fun c_9 => ?_) (fun c_9 => ?_)
    · -- 9T
      obtain rfl : k = sP S := by omega
      refine r_iload_n 93 dX3_areWarm_93 rfl ?_
      exact r_iret 94 dX3_areWarm_94 rfl bP_n (Nat.le_of_ble_eq_true rfl) (Nat.le_of_ble_eq_true rfl) (jd rfl)
    · -- 9F
      have hyk := hy k c_9
      refine r_iconst (v := 0) 12 dX3_areWarm_12 (by decide) ?_
      refine r_ti (y := nI (cnt (nyB S y k) 0)) (nI_0.symm) ?_
      refine r_istore_n (lv2 := [_, _, _, _, none]) 13 dX3_areWarm_13 (by decide) rfl rfl ?_
      refine r_iconst (v := 0) 14 dX3_areWarm_14 (by decide) ?_
      refine r_ti (y := nI 0) (nI_0.symm) ?_
      refine r_istore (lv2 := [_, _, _, _, _]) 15 dX3_areWarm_15 (by decide) rfl rfl ?_
      refine lp_awI hS hP hy (p := k) (by omega) (sP S + 1) 0 (by omega) (by omega) ?_
      refine r_iload_n 60 dX3_areWarm_60 rfl ?_
      refine r_if_eqB 61 85 dX3_areWarm_61 (by decide) (fun c_61 => ?_) (fun c_61 => ?_)
      · -- 61T
        have hb2 := aw_1 c_61
        refine r_iconst (v := 0) 85 dX3_areWarm_85 (by decide) ?_
        refine r_ti (y := bP (awB S y (k + 1) = true)) hb2 ?_
        refine r_istore_n (lv2 := [_, _, _, _, _]) 86 dX3_areWarm_86 (by decide) rfl rfl ?_
        refine r_iinc (lv2 := [_, _, _, _, _]) 87 dX3_areWarm_87 rfl (jinc) (by decide) rfl rfl ?_
        refine r_goto 90 4 dX3_areWarm_90 (by decide) ?_
        refine r_drop (lv2 := [_, _, _, none, _]) 3 rfl ?_
        refine r_drop (lv2 := [_, _, _, none, none]) 4 rfl ?_
        exact ih (k + 1) (by omega) (by omega)
      · -- 61F
        refine r_aload_n 64 dX3_areWarm_64 rfl ?_
        refine r_get 65 f_X3_28 dX3_areWarm_65 0 rfl rfl ?_
        refine r_iload_n 68 dX3_areWarm_68 rfl ?_
        refine r_iaload 69 dX3_areWarm_69 4 rfl (vp_in_nI (by omega) (by decide)) (nI_clamp (by omega)) ?_
        refine r_ti (y := nI (y k)) (hyk.1) ?_
        refine r_if_eq 70 81 dX3_areWarm_70 (by decide) (fun c_70 => ?_) (fun c_70 => ?_)
        · -- 70T
          have hb2 := aw_2 c_61 ((nI_z (by omega)).mp c_70)
          refine r_iconst (v := 1) 81 dX3_areWarm_81 (by decide) ?_
          refine r_goto 82 86 dX3_areWarm_82 (by decide) ?_
          refine r_ti (y := bP (awB S y (k + 1) = true)) hb2 ?_
          refine r_istore_n (lv2 := [_, _, _, _, _]) 86 dX3_areWarm_86 (by decide) rfl rfl ?_
          refine r_iinc (lv2 := [_, _, _, _, _]) 87 dX3_areWarm_87 rfl (jinc) (by decide) rfl rfl ?_
          refine r_goto 90 4 dX3_areWarm_90 (by decide) ?_
          refine r_drop (lv2 := [_, _, _, none, _]) 3 rfl ?_
          refine r_drop (lv2 := [_, _, _, none, none]) 4 rfl ?_
          exact ih (k + 1) (by omega) (by omega)
        · -- 70F
          have hk0 : ¬ y k = 0 := fun z => c_70 (by rw [z]; rfl)
          refine r_iload_n 73 dX3_areWarm_73 rfl ?_
          refine r_aload_n 74 dX3_areWarm_74 rfl ?_
          refine r_get 75 f_X3_62 dX3_areWarm_75 0 rfl rfl ?_
          refine r_icmp_ltN 78 85 dX3_areWarm_78 (by decide) (Nat.lt_of_le_of_lt (cnt_le _ _) (by omega)) (by have := hS.kon; omega) (fun c_78 => ?_) (fun c_78 => ?_)
          · -- 78T
            have hb2 := aw_4 hk0 c_78
            refine r_iconst (v := 0) 85 dX3_areWarm_85 (by decide) ?_
            refine r_ti (y := bP (awB S y (k + 1) = true)) hb2 ?_
            refine r_istore_n (lv2 := [_, _, _, _, _]) 86 dX3_areWarm_86 (by decide) rfl rfl ?_
            refine r_iinc (lv2 := [_, _, _, _, _]) 87 dX3_areWarm_87 rfl (jinc) (by decide) rfl rfl ?_
            refine r_goto 90 4 dX3_areWarm_90 (by decide) ?_
            refine r_drop (lv2 := [_, _, _, none, _]) 3 rfl ?_
            refine r_drop (lv2 := [_, _, _, none, none]) 4 rfl ?_
            exact ih (k + 1) (by omega) (by omega)
          · -- 78F
            have hb2 := aw_3 c_61 c_78
            refine r_iconst (v := 1) 81 dX3_areWarm_81 (by decide) ?_
            refine r_goto 82 86 dX3_areWarm_82 (by decide) ?_
            refine r_ti (y := bP (awB S y (k + 1) = true)) hb2 ?_
            refine r_istore_n (lv2 := [_, _, _, _, _]) 86 dX3_areWarm_86 (by decide) rfl rfl ?_
            refine r_iinc (lv2 := [_, _, _, _, _]) 87 dX3_areWarm_87 rfl (jinc) (by decide) rfl rfl ?_
            refine r_goto 90 4 dX3_areWarm_90 (by decide) ?_
            refine r_drop (lv2 := [_, _, _, none, _]) 3 rfl ?_
            refine r_drop (lv2 := [_, _, _, none, none]) 4 rfl ?_
            exact ih (k + 1) (by omega) (by omega)
set_option maxRecDepth 100000 in
set_option maxHeartbeats 400000 in
theorem m_warm {G : jG} {d : Nat} {m : Nat} {A : Nat → Nat} {S : qS} {pm se th ka iw : Int32} (hS : wf S) (hP : sP S ≤ 9) {y : Nat → Nat} {g : Nat → Int32} (hy : ∀ q, q < sP S → g q = nI (y q) ∧ y q ≤ 4) : Ct G yX3_areWarm cX3_areWarm 5 (some .boolean) (d + 2) 0 0 [.ref m] ((wX G m A S pm se th ka iw) ++ [(A 6, .inl (G.2.2.1, 9, .inl (g)))]) (jD (some (.int (bP (awB S y (sP S) = true)))) ((wX G m A S pm se th ka iw) ++ [(A 6, .inl (G.2.2.1, 9, .inl (g)))])) := by
  refine ct_of (by decide) (Nat.le_of_ble_eq_true rfl) (own := RX3) (nm := "areWarm") rfl rfl (lv := [some (.ref m), none, none, none, none]) rfl ?_
  refine r_iconst (v := 1) 0 dX3_areWarm_0 (by decide) ?_
  refine r_ti (y := bP (awB S y 0 = true)) ((bP_t rfl).symm) ?_
  refine r_istore_n (lv2 := [_, _, none, none, none]) 1 dX3_areWarm_1 (by decide) rfl rfl ?_
  refine r_iconst (v := 0) 2 dX3_areWarm_2 (by decide) ?_
  refine r_ti (y := nI 0) (nI_0.symm) ?_
  refine r_istore_n (lv2 := [_, _, _, none, none]) 3 dX3_areWarm_3 (by decide) rfl rfl ?_
  exact lp_aw hS hP hy (sP S + 1) 0 (by omega) (by omega)
