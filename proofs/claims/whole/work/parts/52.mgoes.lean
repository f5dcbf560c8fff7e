def goB (S : qS) (y : Nat → Nat) (p : Nat) : Nat → Bool
  | 0 => true
  | q + 1 => goB S y p q && ((decide (y q = 0) || !nbB S p q) || !sE S (y p - 1) (y q - 1))
theorem go_s (S : qS) (y : Nat → Nat) (p q : Nat) : goB S y p (q + 1) = (goB S y p q && ((decide (y q = 0) || !nbB S p q) || !sE S (y p - 1) (y q - 1))) := rfl
def gwB (S : qS) (y : Nat → Nat) (p : Nat) : Bool := decide (y p = 0) || goB S y p p
theorem go_1 {S : qS} {y : Nat → Nat} {p k : Nat} (h : ¬ goB S y p k = true) : (0 : Int32) = bP (goB S y p (k + 1) = true) := (bP_f (by rw [go_s, (Bool.not_eq_true _).mp h, Bool.false_and]; decide)).symm
theorem go_2 {S : qS} {y : Nat → Nat} {p k : Nat} (h : goB S y p k = true) (h2 : y k = 0) : (1 : Int32) = bP (goB S y p (k + 1) = true) := (bP_t (by rw [go_s, h, decide_eq_true h2]; rfl)).symm
theorem go_3 {S : qS} {y : Nat → Nat} {p k : Nat} (h : goB S y p k = true) (h2 : ¬ nbB S p k = true) : (1 : Int32) = bP (goB S y p (k + 1) = true) := (bP_t (by rw [go_s, h, (Bool.not_eq_true _).mp h2, Bool.not_false, Bool.or_true, Bool.true_or]; rfl)).symm
theorem go_4 {S : qS} {y : Nat → Nat} {p k : Nat} (h : goB S y p k = true) (h2 : ¬ sE S (y p - 1) (y k - 1) = true) : (1 : Int32) = bP (goB S y p (k + 1) = true) := (bP_t (by rw [go_s, h, (Bool.not_eq_true _).mp h2, Bool.not_false, Bool.or_true]; rfl)).symm
theorem go_5 {S : qS} {y : Nat → Nat} {p k : Nat} (h2 : ¬ y k = 0) (h3 : nbB S p k = true) (h4 : sE S (y p - 1) (y k - 1) = true) : (0 : Int32) = bP (goB S y p (k + 1) = true) := (bP_f (by rw [go_s, decide_eq_false h2, h3, h4]; cases goB S y p k <;> decide)).symm
set_option maxRecDepth 100000 in
set_option maxHeartbeats 400000 in
theorem lp_goes {G : jG} {d : Nat} {m : Nat} {A : Nat → Nat} {S : qS} {pm se th ka iw : Int32} (hS : wf S) (hP : sP S ≤ 9) {y : Nat → Nat} {g : Nat → Int32} {p : Nat} (hp : p < sP S) (hy : ∀ q, q ≤ p → g q = nI (y q) ∧ y q ≤ 4) : ∀ (n : Nat) (k : Nat), p + 1 ≤ k + n → k ≤ p → (y p = 0 → k = 0) → Rn G RX3 "goesWith" cX3_goesWith 4 (some .boolean) (jR (d + 2) 0 0) jX0 (jE G (jD (some (.int (bP (gwB S y p = true)))) ((wX G m A S pm se th ka iw) ++ [(A 6, .inl (G.2.2.1, 9, .inl (g)))])) 0 0) 0 0 4 [some (.ref m), some (.int (nI p)), some (.int (bP (goB S y p k = true))), some (.int (nI k))] [] ((wX G m A S pm se th ka iw) ++ [(A 6, .inl (G.2.2.1, 9, .inl (g)))]) := by
  intro n
  induction n with
  | zero => intros; omega
  | succ n ih =>
    intro k h1 h2 h0
    refine r_iload_n 4 dX3_goesWith_4 rfl ?_
    refine r_iload_n 5 dX3_goesWith_5 rfl ?_
    refine r_icmp_geN 6 75 dX3_goesWith_6 (by decide) (by omega) (by omega) (fun c_6 => ?_) (fun c_6 => ?_)
    · -- 6T
      obtain rfl : k = p := by omega
      have hfin : bP (goB S y k k = true) = bP (gwB S y k = true) := by
        unfold gwB
        by_cases e : y k = 0
        · rw [decide_eq_true e, Bool.true_or, h0 e]
          rfl
        · rw [decide_eq_false e, Bool.false_or]
      refine r_iload_n 75 dX3_goesWith_75 rfl ?_
      exact r_iret 76 dX3_goesWith_76 rfl bP_n (Nat.le_of_ble_eq_true rfl) (Nat.le_of_ble_eq_true rfl) (jd hfin)
    · -- 6F
      have hyp := (hy p (Nat.le_refl _)).2
      have hyk := (hy k h2).2
      refine r_aload_n 9 dX3_goesWith_9 rfl ?_
      refine r_get 10 f_X3_28 dX3_goesWith_10 0 rfl rfl ?_
      refine r_iload_n 13 dX3_goesWith_13 rfl ?_
      refine r_iaload 14 dX3_goesWith_14 4 rfl (vp_in_nI (by omega) (by decide)) (nI_clamp (by omega)) ?_
      refine r_ti (y := nI (y p)) ((hy p (Nat.le_refl _)).1) ?_
      refine r_if_le 15 75 dX3_goesWith_15 (by decide) (fun c_15 => ?_) (fun c_15 => ?_)
      · -- 15T
        have e : y p = 0 := by
          have := (nI_leI (a := y p) (b := 0) (by omega) (by decide)).mp c_15
          omega
        have hfin : bP (goB S y p k = true) = bP (gwB S y p = true) := by
          unfold gwB
          rw [decide_eq_true e, Bool.true_or, h0 e]
          rfl
        refine r_iload_n 75 dX3_goesWith_75 rfl ?_
        exact r_iret 76 dX3_goesWith_76 rfl bP_n (Nat.le_of_ble_eq_true rfl) (Nat.le_of_ble_eq_true rfl) (jd hfin)
      · -- 15F
        have hp1 : 1 ≤ y p := by
          rcases Nat.eq_zero_or_pos (y p) with q | q
          · exact absurd (by rw [q]; decide) c_15
          · exact q
        refine r_iload_n 18 dX3_goesWith_18 rfl ?_
        refine r_if_eqB 19 67 dX3_goesWith_19 (by decide) (fun c_19 => ?_) (fun c_19 => ?_)
        · -- 19T
          have hb2 := go_1 c_19
          refine r_iconst (v := 0) 67 dX3_goesWith_67 (by decide) ?_
          refine r_ti (y := bP (goB S y p (k + 1) = true)) hb2 ?_
          refine r_istore_n (lv2 := [_, _, _, _]) 68 dX3_goesWith_68 (by decide) rfl rfl ?_
          refine r_iinc (lv2 := [_, _, _, _]) 69 dX3_goesWith_69 rfl (jinc) (by decide) rfl rfl ?_
          refine r_goto 72 4 dX3_goesWith_72 (by decide) ?_
          exact ih (k + 1) (by omega) (by omega) (fun q => by omega)
        · -- 19F
          refine r_aload_n 22 dX3_goesWith_22 rfl ?_
          refine r_get 23 f_X3_28 dX3_goesWith_23 0 rfl rfl ?_
          refine r_iload_n 26 dX3_goesWith_26 rfl ?_
          refine r_iaload 27 dX3_goesWith_27 4 rfl (vp_in_nI (by omega) (by decide)) (nI_clamp (by omega)) ?_
          refine r_ti (y := nI (y k)) ((hy k h2).1) ?_
          refine r_if_eq 28 63 dX3_goesWith_28 (by decide) (fun c_28 => ?_) (fun c_28 => ?_)
          · -- 28T
            have hb2 := go_2 c_19 ((nI_z (by omega)).mp c_28)
            refine r_iconst (v := 1) 63 dX3_goesWith_63 (by decide) ?_
            refine r_goto 64 68 dX3_goesWith_64 (by decide) ?_
            refine r_ti (y := bP (goB S y p (k + 1) = true)) hb2 ?_
            refine r_istore_n (lv2 := [_, _, _, _]) 68 dX3_goesWith_68 (by decide) rfl rfl ?_
            refine r_iinc (lv2 := [_, _, _, _]) 69 dX3_goesWith_69 rfl (jinc) (by decide) rfl rfl ?_
            refine r_goto 72 4 dX3_goesWith_72 (by decide) ?_
            exact ih (k + 1) (by omega) (by omega) (fun q => by omega)
          · -- 28F
            have hk0 : ¬ y k = 0 := fun z => c_28 (by rw [z]; rfl)
            refine r_aload_n 31 dX3_goesWith_31 rfl ?_
            refine r_iload_n 32 dX3_goesWith_32 rfl ?_
            refine r_iload_n 33 dX3_goesWith_33 rfl ?_
            refine r_callVD (ws2 := [_, _, _, _, _]) (wr := [_]) 34 s_X3_126 dX3_goesWith_34 (m_areNeighbours hS.g (show p < sP S from hp) (show k < sP S by omega)) rfl rfl 0 rfl rfl rfl [0, 1, 2, 3] [4] rfl rfl rfl rfl (by decide) jRm_ok (Nat.le_of_ble_eq_true rfl) ⟨(Nat.le_of_ble_eq_true rfl), (Nat.le_of_ble_eq_true rfl)⟩ [1, 2, 3, 4, 0] rfl rfl ?_
            refine r_if_eqB 37 63 dX3_goesWith_37 (by decide) (fun c_37 => ?_) (fun c_37 => ?_)
            · -- 37T
              have hb2 := go_3 c_19 c_37
              refine r_iconst (v := 1) 63 dX3_goesWith_63 (by decide) ?_
              refine r_goto 64 68 dX3_goesWith_64 (by decide) ?_
              refine r_ti (y := bP (goB S y p (k + 1) = true)) hb2 ?_
              refine r_istore_n (lv2 := [_, _, _, _]) 68 dX3_goesWith_68 (by decide) rfl rfl ?_
              refine r_iinc (lv2 := [_, _, _, _]) 69 dX3_goesWith_69 rfl (jinc) (by decide) rfl rfl ?_
              refine r_goto 72 4 dX3_goesWith_72 (by decide) ?_
              exact ih (k + 1) (by omega) (by omega) (fun q => by omega)
            · -- 37F
              refine r_aload_n 40 dX3_goesWith_40 rfl ?_
              refine r_aload_n 41 dX3_goesWith_41 rfl ?_
              refine r_get 42 f_X3_28 dX3_goesWith_42 0 rfl rfl ?_
              refine r_iload_n 45 dX3_goesWith_45 rfl ?_
              refine r_iaload 46 dX3_goesWith_46 4 rfl (vp_in_nI (by omega) (by decide)) (nI_clamp (by omega)) ?_
              refine r_ti (y := nI (y p)) ((hy p (Nat.le_refl _)).1) ?_
              refine r_iconst (v := 1) 47 dX3_goesWith_47 (by decide) ?_
              refine r_isub 48 dX3_goesWith_48 ?_
              refine r_ti (y := nI (y p - 1)) (pk_sub (b := 1) hp1) ?_
              refine r_aload_n 49 dX3_goesWith_49 rfl ?_
              refine r_get 50 f_X3_28 dX3_goesWith_50 0 rfl rfl ?_
              refine r_iload_n 53 dX3_goesWith_53 rfl ?_
              refine r_iaload 54 dX3_goesWith_54 4 rfl (vp_in_nI (by omega) (by decide)) (nI_clamp (by omega)) ?_
              refine r_ti (y := nI (y k)) ((hy k h2).1) ?_
              refine r_iconst (v := 1) 55 dX3_goesWith_55 (by decide) ?_
              refine r_isub 56 dX3_goesWith_56 ?_
              refine r_ti (y := nI (y k - 1)) (pk_sub (b := 1) (by omega)) ?_
              refine r_callVD (ws2 := [_, _, _, _, _]) (wr := [_]) 57 s_X3_118 dX3_goesWith_57 (m_areFoes (f := y p - 1) (g := y k - 1) (by omega) (by omega)) rfl rfl 0 rfl rfl rfl [0, 1, 2, 3] [4] rfl rfl rfl rfl (by decide) jRm_ok (Nat.le_of_ble_eq_true rfl) ⟨(Nat.le_of_ble_eq_true rfl), (Nat.le_of_ble_eq_true rfl)⟩ [1, 2, 3, 4, 0] rfl rfl ?_
              refine r_if_neB 60 67 dX3_goesWith_60 (by decide) (fun c_60 => ?_) (fun c_60 => ?_)
              · -- 60T
                have hb2 := go_5 hk0 c_37 c_60
                refine r_iconst (v := 0) 67 dX3_goesWith_67 (by decide) ?_
                refine r_ti (y := bP (goB S y p (k + 1) = true)) hb2 ?_
                refine r_istore_n (lv2 := [_, _, _, _]) 68 dX3_goesWith_68 (by decide) rfl rfl ?_
                refine r_iinc (lv2 := [_, _, _, _]) 69 dX3_goesWith_69 rfl (jinc) (by decide) rfl rfl ?_
                refine r_goto 72 4 dX3_goesWith_72 (by decide) ?_
                exact ih (k + 1) (by omega) (by omega) (fun q => by omega)
              · -- 60F
                have hb2 := go_4 c_19 c_60
                refine r_iconst (v := 1) 63 dX3_goesWith_63 (by decide) ?_
                refine r_goto 64 68 dX3_goesWith_64 (by decide) ?_
                refine r_ti (y := bP (goB S y p (k + 1) = true)) hb2 ?_
                refine r_istore_n (lv2 := [_, _, _, _]) 68 dX3_goesWith_68 (by decide) rfl rfl ?_
                refine r_iinc (lv2 := [_, _, _, _]) 69 dX3_goesWith_69 rfl (jinc) (by decide) rfl rfl ?_
                refine r_goto 72 4 dX3_goesWith_72 (by decide) ?_
                exact ih (k + 1) (by omega) (by omega) (fun q => by omega)
set_option maxRecDepth 100000 in
set_option maxHeartbeats 400000 in
theorem m_goes {G : jG} {d : Nat} {m : Nat} {A : Nat → Nat} {S : qS} {pm se th ka iw : Int32} (hS : wf S) (hP : sP S ≤ 9) {y : Nat → Nat} {g : Nat → Int32} {p : Nat} (hp : p < sP S) (hy : ∀ q, q ≤ p → g q = nI (y q) ∧ y q ≤ 4) : Ct G yX3_goesWith cX3_goesWith 4 (some .boolean) (d + 2) 0 0 [.ref m, .int (nI p)] ((wX G m A S pm se th ka iw) ++ [(A 6, .inl (G.2.2.1, 9, .inl (g)))]) (jD (some (.int (bP (gwB S y p = true)))) ((wX G m A S pm se th ka iw) ++ [(A 6, .inl (G.2.2.1, 9, .inl (g)))])) := by
  refine ct_of (by decide) (Nat.le_of_ble_eq_true rfl) (own := RX3) (nm := "goesWith") rfl rfl (lv := [some (.ref m), some (.int (nI p)), none, none]) rfl ?_
  refine r_iconst (v := 1) 0 dX3_goesWith_0 (by decide) ?_
  refine r_ti (y := bP (goB S y p 0 = true)) ((bP_t rfl).symm) ?_
  refine r_istore_n (lv2 := [_, _, _, none]) 1 dX3_goesWith_1 (by decide) rfl rfl ?_
  refine r_iconst (v := 0) 2 dX3_goesWith_2 (by decide) ?_
  refine r_ti (y := nI 0) (nI_0.symm) ?_
  refine r_istore_n (lv2 := [_, _, _, _]) 3 dX3_goesWith_3 (by decide) rfl rfl ?_
  exact lp_goes hS hP hp hy (p + 1) 0 (by omega) (by omega) (fun _ => rfl)
