set_option maxRecDepth 100000 in
set_option maxHeartbeats 400000 in
theorem q_put {G : jG} {d : Nat} {q ql qh : Nat} {S : qS} {p f : Nat} (hp : p < 16) (hf : f < 4) (h4 : sF S p = 4) : Ct G yX1_put cX1_put 3 none (d + 3) 0 0 [.ref q, .int (nI p), .int (nI f)] (wS G q ql qh S) (jD none (wS G q ql qh (sSetF S (upN (sF S) p f)))) := by
  refine ct_of (by decide) (Nat.le_of_ble_eq_true rfl) (own := RX1) (nm := "put") rfl rfl (lv := [some (.ref q), some (.int (nI p)), some (.int (nI f))]) rfl ?_
  refine r_iload_n 0 dX1_put_0 rfl ?_
  refine r_callND (ws2 := [_, _, _]) (wr := [_, _, _]) 1 s_X1_80 dX1_put_1 (c_isFam1 hf) rfl rfl [] [0, 1, 2] rfl rfl rfl rfl (by decide) jRm_ok (Nat.le_of_ble_eq_true rfl) ⟨(Nat.le_of_ble_eq_true rfl), (Nat.le_of_ble_eq_true rfl)⟩ [0, 1, 2] rfl rfl ?_
  refine r_if_eqF 4 19 dX1_put_4 (by decide) (by decide) ?_
  refine r_aload_n 7 dX1_put_7 rfl ?_
  refine r_get 8 f_X1_39 dX1_put_8 0 rfl rfl ?_
  refine r_iload_n 11 dX1_put_11 rfl ?_
  refine r_dup2 12 dX1_put_12 rfl rfl ?_
  refine r_iaload 13 dX1_put_13 1 rfl (vp_in_nI (by omega) (by decide)) (nI_clamp (by omega)) ?_
  refine r_iconst (v := 1) 14 dX1_put_14 (by decide) ?_
  refine r_iload_n 15 dX1_put_15 rfl ?_
  refine r_ishl 16 dX1_put_16 ?_
  refine r_ti (y := mI (one p)) (mI_on hp) ?_
  refine r_ior 17 dX1_put_17 ?_
  refine r_iastore (ws2 := [_, (_, .inl (_, _, .inl _)), _]) 18 dX1_put_18 1 rfl (vp_in_nI (by omega) (by decide)) (nI_clamp (by omega)) rfl ?_
  refine r_arrI (f2 := fun g => mI (lyB (sSetF S (upN (sF S) p f)) g)) (ws2 := [_, (_, .inl (_, _, .inl _)), _]) 1 rfl (fun j hj => put_ly h4 j hj) rfl ?_
  exact r_ret 19 dX1_put_19 rfl (Nat.le_of_ble_eq_true rfl) (Nat.le_of_ble_eq_true rfl) (jdv rfl)
set_option maxRecDepth 100000 in
set_option maxHeartbeats 400000 in
theorem q_put0 {G : jG} {d : Nat} {q ql qh : Nat} {S : qS} {y x : Int32} (hf : ¬ (0 ≤ x ∧ x ≤ 3)) : Ct G yX1_put cX1_put 3 none (d + 3) 0 0 [.ref q, .int y, .int x] (wS G q ql qh S) (jD none (wS G q ql qh S)) := by
  refine ct_of (by decide) (Nat.le_of_ble_eq_true rfl) (own := RX1) (nm := "put") rfl rfl (lv := [some (.ref q), some (.int y), some (.int x)]) rfl ?_
  refine r_iload_n 0 dX1_put_0 rfl ?_
  refine r_callND (ws2 := [_, _, _]) (wr := [_, _, _]) 1 s_X1_80 dX1_put_1 (c_isFam0 hf) rfl rfl [] [0, 1, 2] rfl rfl rfl rfl (by decide) jRm_ok (Nat.le_of_ble_eq_true rfl) ⟨(Nat.le_of_ble_eq_true rfl), (Nat.le_of_ble_eq_true rfl)⟩ [0, 1, 2] rfl rfl ?_
  refine r_if_eqT 4 19 dX1_put_4 (by decide) (by decide) ?_
  exact r_ret 19 dX1_put_19 rfl (Nat.le_of_ble_eq_true rfl) (Nat.le_of_ble_eq_true rfl) (jdv rfl)
set_option maxRecDepth 100000 in
set_option maxHeartbeats 400000 in
theorem lp_bear {G : jG} {d : Nat} {q ql qh : Nat} {S : qS} (hS : wf S) {p f : Nat} (hp : p < sP S) (hp6 : p < 16) (hf : f < 4) (h4 : sF S p = 4) : ∀ (n : Nat) (k : Nat), 4 + 1 ≤ k + n → k ≤ 4 → Rn G RX1 "bear" cX1_bear 5 (some .int) (jR (d + 5) 0 0) jX0 (jE G (jD (some (.int (nI (cnt (nbs (beS S p f) (one p)) 16)))) (wS G q ql qh (beS S p f))) 0 0) 0 0 5 [some (.ref q), some (.int (nI p)), some (.int (nI f)), some (.int (mI (frB S f k))), some (.int (nI k))] [] (wS G q ql qh S) := by
  intro n
  induction n with
  | zero => intros; omega
  | succ n ih =>
    intro k h1 h2
    refine r_iload 5 dX1_bear_5 rfl ?_
    refine r_iconst (v := 4) 7 dX1_bear_7 (by decide) ?_
    refine r_icmp_geN (b := 4) 8 40 dX1_bear_8 (by decide) (by omega) (by omega) (fun c_8 => ?_) (fun c_8 => ?_)
    · -- 8T
      obtain rfl : k = 4 := by omega
      refine r_aload_n 40 dX1_bear_40 rfl ?_
      refine r_iload_n 41 dX1_bear_41 rfl ?_
      refine r_iload_n 42 dX1_bear_42 rfl ?_
      refine r_callVD (ws2 := [_, _, _]) (wr := []) 43 s_X1_66 dX1_bear_43 (q_put hp6 hf h4) rfl rfl 0 rfl rfl rfl [0, 1, 2] [] rfl rfl rfl rfl (by decide) jRm_ok (Nat.le_of_ble_eq_true rfl) ⟨(Nat.le_of_ble_eq_true rfl), (Nat.le_of_ble_eq_true rfl)⟩ [0, 1, 2] rfl rfl ?_
      refine r_aload_n 46 dX1_bear_46 rfl ?_
      refine r_dup 47 dX1_bear_47 rfl ?_
      refine r_get 48 f_X1_33 dX1_bear_48 0 rfl rfl ?_
      refine r_aload_n 51 dX1_bear_51 rfl ?_
      refine r_iconst (v := 1) 52 dX1_bear_52 (by decide) ?_
      refine r_iload_n 53 dX1_bear_53 rfl ?_
      refine r_ishl 54 dX1_bear_54 ?_
      refine r_ti (y := mI (one p)) (mI_on hp6) ?_
      refine r_iload_n 55 dX1_bear_55 rfl ?_
      refine r_callVD (ws2 := [_, _, _]) (wr := []) 56 s_X1_87 dX1_bear_56 (q_beside hS) rfl rfl 0 rfl rfl rfl [0, 1, 2] [] rfl rfl rfl rfl (by decide) jRm_ok (Nat.le_of_ble_eq_true rfl) ⟨(Nat.le_of_ble_eq_true rfl), (Nat.le_of_ble_eq_true rfl)⟩ [0, 1, 2] rfl rfl ?_
      refine r_ior 59 dX1_bear_59 ?_
      refine r_ti (y := mI (rtB (beS S p f))) (be_rt (S := S) p f) ?_
      refine r_put (ws2 := [(_, .inr (_, [_, _, _, _, _, _, _, _, _, _, _])), _, _]) 60 p_X1_33 dX1_bear_60 0 rfl rfl rfl (Nat.le_of_ble_eq_true rfl) rfl ?_
      refine r_aload_n 63 dX1_bear_63 rfl ?_
      refine r_dup 64 dX1_bear_64 rfl ?_
      refine r_get 65 f_X1_36 dX1_bear_65 0 rfl rfl ?_
      refine r_aload_n 68 dX1_bear_68 rfl ?_
      refine r_iconst (v := 1) 69 dX1_bear_69 (by decide) ?_
      refine r_iload_n 70 dX1_bear_70 rfl ?_
      refine r_ishl 71 dX1_bear_71 ?_
      refine r_ti (y := mI (one p)) (mI_on hp6) ?_
      refine r_iload_n 72 dX1_bear_72 rfl ?_
      refine r_callVD (ws2 := [_, _, _]) (wr := []) 73 s_X1_91 dX1_bear_73 (q_below hS) rfl rfl 0 rfl rfl rfl [0, 1, 2] [] rfl rfl rfl rfl (by decide) jRm_ok (Nat.le_of_ble_eq_true rfl) ⟨(Nat.le_of_ble_eq_true rfl), (Nat.le_of_ble_eq_true rfl)⟩ [0, 1, 2] rfl rfl ?_
      refine r_ior 76 dX1_bear_76 ?_
      refine r_ti (y := mI (dnB (beS S p f))) (be_dn (S := S) p f) ?_
      refine r_put (ws2 := [(_, .inr (_, [_, _, _, _, _, _, _, _, _, _, _])), _, _]) 77 p_X1_36 dX1_bear_77 0 rfl rfl rfl (Nat.le_of_ble_eq_true rfl) rfl ?_
      refine r_aload_n 80 dX1_bear_80 rfl ?_
      refine r_iconst (v := 1) 81 dX1_bear_81 (by decide) ?_
      refine r_iload_n 82 dX1_bear_82 rfl ?_
      refine r_ishl 83 dX1_bear_83 ?_
      refine r_ti (y := mI (one p)) (mI_on hp6) ?_
      refine r_callVD (ws2 := [_, _, _]) (wr := []) 84 s_X1_103 dX1_bear_84 (q_joinedTo (wf_be hS hp hf h4)) rfl rfl 0 rfl rfl rfl [0, 1, 2] [] rfl rfl rfl rfl (by decide) jRm_ok (Nat.le_of_ble_eq_true rfl) ⟨(Nat.le_of_ble_eq_true rfl), (Nat.le_of_ble_eq_true rfl)⟩ [0, 1, 2] rfl rfl ?_
      refine r_callSD (ws2 := [_, _, _]) (wr := [_, _, _]) 87 s_X1_106 dX1_bear_87 (c_bitCount) rfl rfl [] [0, 1, 2] rfl rfl rfl rfl (by decide) jRm_ok (Nat.le_of_ble_eq_true rfl) ⟨(Nat.le_of_ble_eq_true rfl), (Nat.le_of_ble_eq_true rfl)⟩ [0, 1, 2] rfl rfl ?_
      exact r_iret 90 dX1_bear_90 rfl rfl (Nat.le_of_ble_eq_true rfl) (Nat.le_of_ble_eq_true rfl) (jd rfl)
    · -- 8F
      refine r_aload_n 11 dX1_bear_11 rfl ?_
      refine r_iload_n 12 dX1_bear_12 rfl ?_
      refine r_callVD (ws2 := [_, _, _]) (wr := []) 13 s_X1_100 dX1_bear_13 (q_foesOf hf) rfl rfl 0 rfl rfl rfl [0, 1, 2] [] rfl rfl rfl rfl (by decide) jRm_ok (Nat.le_of_ble_eq_true rfl) ⟨(Nat.le_of_ble_eq_true rfl), (Nat.le_of_ble_eq_true rfl)⟩ [0, 1, 2] rfl rfl ?_
      refine r_iload 16 dX1_bear_16 rfl ?_
      refine r_callND (ws2 := [_, _, _]) (wr := [_, _, _]) 18 s_X1_69 dX1_bear_18 (c_has (show k < 16 by omega)) rfl rfl [] [0, 1, 2] rfl rfl rfl rfl (by decide) jRm_ok (Nat.le_of_ble_eq_true rfl) ⟨(Nat.le_of_ble_eq_true rfl), (Nat.le_of_ble_eq_true rfl)⟩ [0, 1, 2] rfl rfl ?_
      refine r_if_neB 21 34 dX1_bear_21 (by decide) (fun c_21 => ?_) (fun c_21 => ?_)
      · -- 21T
        rw [frB_n c_21]
        
        refine r_iinc (lv2 := [_, _, _, _, _]) 34 dX1_bear_34 rfl (jinc) (by decide) rfl rfl ?_
        refine r_goto 37 5 dX1_bear_37 (by decide) ?_
        exact ih (k + 1) (by omega) (by omega)
      · -- 21F
        refine r_iload_n 24 dX1_bear_24 rfl ?_
        refine r_aload_n 25 dX1_bear_25 rfl ?_
        refine r_get 26 f_X1_39 dX1_bear_26 0 rfl rfl ?_
        refine r_iload 29 dX1_bear_29 rfl ?_
        refine r_iaload 31 dX1_bear_31 1 rfl (vp_in_nI (by omega) (by decide)) (nI_clamp (by omega)) ?_
        refine r_ior 32 dX1_bear_32 ?_
        refine r_ti (y := mI (frB S f (k + 1))) (frB_s c_21) ?_
        refine r_istore_n (lv2 := [_, _, _, _, _]) 33 dX1_bear_33 (by decide) rfl rfl ?_
        
        refine r_iinc (lv2 := [_, _, _, _, _]) 34 dX1_bear_34 rfl (jinc) (by decide) rfl rfl ?_
        refine r_goto 37 5 dX1_bear_37 (by decide) ?_
        exact ih (k + 1) (by omega) (by omega)
set_option maxRecDepth 100000 in
set_option maxHeartbeats 400000 in
theorem q_bear {G : jG} {d : Nat} {q ql qh : Nat} {S : qS} (hS : wf S) {p f : Nat} (hp : p < sP S) (hp6 : p < 16) (hf : f < 4) (h4 : sF S p = 4) : Ct G yX1_bear cX1_bear 5 (some .int) (d + 5) 0 0 [.ref q, .int (nI p), .int (nI f)] (wS G q ql qh S) (jD (some (.int (nI (cnt (nbs (beS S p f) (one p)) 16)))) (wS G q ql qh (beS S p f))) := by
  refine ct_of (by decide) (Nat.le_of_ble_eq_true rfl) (own := RX1) (nm := "bear") rfl rfl (lv := [some (.ref q), some (.int (nI p)), some (.int (nI f)), none, none]) rfl ?_
  refine r_iconst (v := 0) 0 dX1_bear_0 (by decide) ?_
  refine r_ti (y := mI (frB S f 0)) (frB_0) ?_
  refine r_istore_n (lv2 := [_, _, _, _, none]) 1 dX1_bear_1 (by decide) rfl rfl ?_
  refine r_iconst (v := 0) 2 dX1_bear_2 (by decide) ?_
  refine r_ti (y := nI 0) (nI_0.symm) ?_
  refine r_istore (lv2 := [_, _, _, _, _]) 3 dX1_bear_3 (by decide) rfl rfl ?_
  exact lp_bear hS hp hp6 hf h4 5 0 (by omega) (by omega)
set_option maxRecDepth 100000 in
set_option maxHeartbeats 400000 in
theorem q_bury {G : jG} {d : Nat} {q ql qh : Nat} {S : qS} (hS : wf S) {p : Nat} (hp : p < 16) : Ct G yX1_bury cX1_bury 4 (some .int) (d + 3) 0 0 [.ref q, .int (nI p)] (wS G q ql qh S) (jD (some (.int (nI (cnt (nbs S (one p)) 16)))) (wS G q ql qh (dieS S p))) := by
  refine ct_of (by decide) (Nat.le_of_ble_eq_true rfl) (own := RX1) (nm := "bury") rfl rfl (lv := [some (.ref q), some (.int (nI p)), none, none]) rfl ?_
  refine r_aload_n 0 dX1_bury_0 rfl ?_
  refine r_iconst (v := 1) 1 dX1_bury_1 (by decide) ?_
  refine r_iload_n 2 dX1_bury_2 rfl ?_
  refine r_ishl 3 dX1_bury_3 ?_
  refine r_ti (y := mI (one p)) (mI_on hp) ?_
  refine r_callVD (ws2 := [_, _, _]) (wr := []) 4 s_X1_103 dX1_bury_4 (q_joinedTo hS) rfl rfl 0 rfl rfl rfl [0, 1, 2] [] rfl rfl rfl rfl (by decide) jRm_ok (Nat.le_of_ble_eq_true rfl) ⟨(Nat.le_of_ble_eq_true rfl), (Nat.le_of_ble_eq_true rfl)⟩ [0, 1, 2] rfl rfl ?_
  refine r_callSD (ws2 := [_, _, _]) (wr := [_, _, _]) 7 s_X1_106 dX1_bury_7 (c_bitCount) rfl rfl [] [0, 1, 2] rfl rfl rfl rfl (by decide) jRm_ok (Nat.le_of_ble_eq_true rfl) ⟨(Nat.le_of_ble_eq_true rfl), (Nat.le_of_ble_eq_true rfl)⟩ [0, 1, 2] rfl rfl ?_
  refine r_istore_n (lv2 := [_, _, _, none]) 10 dX1_bury_10 (by decide) rfl rfl ?_
  refine r_aload_n 11 dX1_bury_11 rfl ?_
  refine r_iconst (v := 1) 12 dX1_bury_12 (by decide) ?_
  refine r_iload_n 13 dX1_bury_13 rfl ?_
  refine r_ishl 14 dX1_bury_14 ?_
  refine r_ti (y := mI (one p)) (mI_on hp) ?_
  refine r_aload_n 15 dX1_bury_15 rfl ?_
  refine r_callVD (ws2 := [_, _, _]) (wr := []) 16 s_X1_77 dX1_bury_16 (q_squares) rfl rfl 0 rfl rfl rfl [0, 1, 2] [] rfl rfl rfl rfl (by decide) jRm_ok (Nat.le_of_ble_eq_true rfl) ⟨(Nat.le_of_ble_eq_true rfl), (Nat.le_of_ble_eq_true rfl)⟩ [0, 1, 2] rfl rfl ?_
  refine r_callVD (ws2 := [_, _, _]) (wr := []) 19 s_X1_84 dX1_bury_19 (c_X1_loosen hS) rfl rfl 0 rfl rfl rfl [0, 1, 2] [] rfl rfl rfl rfl (by decide) jRm_ok (Nat.le_of_ble_eq_true rfl) ⟨(Nat.le_of_ble_eq_true rfl), (Nat.le_of_ble_eq_true rfl)⟩ [0, 1, 2] rfl rfl ?_
  refine r_iconst (v := 0) 22 dX1_bury_22 (by decide) ?_
  refine r_istore_n (lv2 := [_, _, _, _]) 23 dX1_bury_23 (by decide) rfl rfl ?_
  refine r_iload_n 24 dX1_bury_24 rfl ?_
  refine r_iconst (v := 4) 25 dX1_bury_25 (by decide) ?_
  refine r_icmp_geF 26 49 dX1_bury_26 (by decide) (by decide) ?_
  refine r_aload_n 29 dX1_bury_29 rfl ?_
  refine r_get 30 f_X1_39 dX1_bury_30 0 rfl rfl ?_
  refine r_iload_n 33 dX1_bury_33 rfl ?_
  refine r_dup2 34 dX1_bury_34 rfl rfl ?_
  refine r_iaload 35 dX1_bury_35 1 rfl (vp_lit (by decide)) (show Int32.toNatClampNeg 0 = 0 by decide) ?_
  refine r_iconst (v := 1) 36 dX1_bury_36 (by decide) ?_
  refine r_iload_n 37 dX1_bury_37 rfl ?_
  refine r_ishl 38 dX1_bury_38 ?_
  refine r_ti (y := mI (one p)) (mI_on hp) ?_
  refine r_iconst (v := -1) 39 dX1_bury_39 (by decide) ?_
  refine r_ixor 40 dX1_bury_40 ?_
  refine r_iand 41 dX1_bury_41 ?_
  refine r_iastore (ws2 := [_, (_, .inl (_, _, .inl _)), _]) 42 dX1_bury_42 1 rfl (vp_lit (by decide)) (show Int32.toNatClampNeg 0 = 0 by decide) rfl ?_
  refine r_iinc (v := 1) (lv2 := [_, _, _, _]) 43 dX1_bury_43 rfl (by decide) (by decide) rfl rfl ?_
  refine r_goto 46 24 dX1_bury_46 (by decide) ?_
  refine r_iload_n 24 dX1_bury_24 rfl ?_
  refine r_iconst (v := 4) 25 dX1_bury_25 (by decide) ?_
  refine r_icmp_geF 26 49 dX1_bury_26 (by decide) (by decide) ?_
  refine r_aload_n 29 dX1_bury_29 rfl ?_
  refine r_get 30 f_X1_39 dX1_bury_30 0 rfl rfl ?_
  refine r_iload_n 33 dX1_bury_33 rfl ?_
  refine r_dup2 34 dX1_bury_34 rfl rfl ?_
  refine r_iaload 35 dX1_bury_35 1 rfl (vp_lit (by decide)) (show Int32.toNatClampNeg 1 = 1 by decide) ?_
  refine r_iconst (v := 1) 36 dX1_bury_36 (by decide) ?_
  refine r_iload_n 37 dX1_bury_37 rfl ?_
  refine r_ishl 38 dX1_bury_38 ?_
  refine r_ti (y := mI (one p)) (mI_on hp) ?_
  refine r_iconst (v := -1) 39 dX1_bury_39 (by decide) ?_
  refine r_ixor 40 dX1_bury_40 ?_
  refine r_iand 41 dX1_bury_41 ?_
  refine r_iastore (ws2 := [_, (_, .inl (_, _, .inl _)), _]) 42 dX1_bury_42 1 rfl (vp_lit (by decide)) (show Int32.toNatClampNeg 1 = 1 by decide) rfl ?_
  refine r_iinc (v := 2) (lv2 := [_, _, _, _]) 43 dX1_bury_43 rfl (by decide) (by decide) rfl rfl ?_
  refine r_goto 46 24 dX1_bury_46 (by decide) ?_
  refine r_iload_n 24 dX1_bury_24 rfl ?_
  refine r_iconst (v := 4) 25 dX1_bury_25 (by decide) ?_
  refine r_icmp_geF 26 49 dX1_bury_26 (by decide) (by decide) ?_
  refine r_aload_n 29 dX1_bury_29 rfl ?_
  refine r_get 30 f_X1_39 dX1_bury_30 0 rfl rfl ?_
  refine r_iload_n 33 dX1_bury_33 rfl ?_
  refine r_dup2 34 dX1_bury_34 rfl rfl ?_
  refine r_iaload 35 dX1_bury_35 1 rfl (vp_lit (by decide)) (show Int32.toNatClampNeg 2 = 2 by decide) ?_
  refine r_iconst (v := 1) 36 dX1_bury_36 (by decide) ?_
  refine r_iload_n 37 dX1_bury_37 rfl ?_
  refine r_ishl 38 dX1_bury_38 ?_
  refine r_ti (y := mI (one p)) (mI_on hp) ?_
  refine r_iconst (v := -1) 39 dX1_bury_39 (by decide) ?_
  refine r_ixor 40 dX1_bury_40 ?_
  refine r_iand 41 dX1_bury_41 ?_
  refine r_iastore (ws2 := [_, (_, .inl (_, _, .inl _)), _]) 42 dX1_bury_42 1 rfl (vp_lit (by decide)) (show Int32.toNatClampNeg 2 = 2 by decide) rfl ?_
  refine r_iinc (v := 3) (lv2 := [_, _, _, _]) 43 dX1_bury_43 rfl (by decide) (by decide) rfl rfl ?_
  refine r_goto 46 24 dX1_bury_46 (by decide) ?_
  refine r_iload_n 24 dX1_bury_24 rfl ?_
  refine r_iconst (v := 4) 25 dX1_bury_25 (by decide) ?_
  refine r_icmp_geF 26 49 dX1_bury_26 (by decide) (by decide) ?_
  refine r_aload_n 29 dX1_bury_29 rfl ?_
  refine r_get 30 f_X1_39 dX1_bury_30 0 rfl rfl ?_
  refine r_iload_n 33 dX1_bury_33 rfl ?_
  refine r_dup2 34 dX1_bury_34 rfl rfl ?_
  refine r_iaload 35 dX1_bury_35 1 rfl (vp_lit (by decide)) (show Int32.toNatClampNeg 3 = 3 by decide) ?_
  refine r_iconst (v := 1) 36 dX1_bury_36 (by decide) ?_
  refine r_iload_n 37 dX1_bury_37 rfl ?_
  refine r_ishl 38 dX1_bury_38 ?_
  refine r_ti (y := mI (one p)) (mI_on hp) ?_
  refine r_iconst (v := -1) 39 dX1_bury_39 (by decide) ?_
  refine r_ixor 40 dX1_bury_40 ?_
  refine r_iand 41 dX1_bury_41 ?_
  refine r_iastore (ws2 := [_, (_, .inl (_, _, .inl _)), _]) 42 dX1_bury_42 1 rfl (vp_lit (by decide)) (show Int32.toNatClampNeg 3 = 3 by decide) rfl ?_
  refine r_iinc (v := 4) (lv2 := [_, _, _, _]) 43 dX1_bury_43 rfl (by decide) (by decide) rfl rfl ?_
  refine r_goto 46 24 dX1_bury_46 (by decide) ?_
  refine r_iload_n 24 dX1_bury_24 rfl ?_
  refine r_iconst (v := 4) 25 dX1_bury_25 (by decide) ?_
  refine r_icmp_geT 26 49 dX1_bury_26 (by decide) (by decide) ?_
  rw [lo_die hS]
  refine r_arrI (f2 := fun g => mI (lyB (dieS S p) g)) (ws2 := [_, (_, .inl (_, _, .inl _)), _]) 1 rfl (fun j hj => by
    rcases (show j = 0 ∨ j = 1 ∨ j = 2 ∨ j = 3 by omega) with rfl | rfl | rfl | rfl <;> exact die_ly 0 _ (by decide)) rfl ?_
  refine r_iload_n 49 dX1_bury_49 rfl ?_
  exact r_iret 50 dX1_bury_50 rfl rfl (Nat.le_of_ble_eq_true rfl) (Nat.le_of_ble_eq_true rfl) (jd rfl)
