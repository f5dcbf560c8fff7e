theorem b_from24 {G : jG} {d b bw bs q ql qh : Nat} {S : qS} (hS : wf S) (hP : sP S ≤ 9) {e : Nat} {u : Nat → Nat} (he : 1 ≤ e) (he2 : e < 2 ^ 30) (hu : uS u ≤ 8) : Ct G yX0_layFrom cX0_layFrom 8 (some .int) (d + 24) 0 0 [.ref b, .ref q, .int (nI 0), .int (nI e)] (bX G b bw bs (u) (fun _ => 4) ++ wS G q ql qh S) (lQ G b bw bs q ql qh S (cL S (sP S) (fun _ => 4) u) (e) (u) (fun _ => 4)) := by
  rw [show d + 24 = (d + (18 - 2 * sP S)) + 2 * sP S + 6 by omega]
  exact b_from hS hP (sP S) (d + (18 - 2 * sP S)) 0 e _ u (by omega) he he2 (fun _ _ => rfl) hu
theorem cS_len {S : qS} {g : (Nat → Nat) → (Nat → Nat) → List (Nat → Nat)} {p B : Nat} {z u : Nat → Nat} (hg : ∀ z u, (g z u).length ≤ B) : ∀ f, (cSL S g p z u f).length ≤ (f + 1) * B
  | 0 => by
    unfold cSL
    rw [Nat.zero_add, Nat.one_mul]
    split
    · exact hg _ _
    · exact Nat.zero_le _
  | f + 1 => by
    have ih := cS_len (S := S) (p := p) (z := z) (u := u) hg f
    show (cSL S g p z u f ++ cGL S g p z u f).length ≤ (f + 1 + 1) * B
    rw [List.length_append, Nat.succ_mul (f + 1) B]
    refine Nat.add_le_add ih ?_
    unfold cGL
    split
    · split
      · exact hg _ _
      · exact Nat.zero_le _
    · exact Nat.zero_le _
theorem cL_len {S : qS} : ∀ (k : Nat) (z u : Nat → Nat), (cL S k z u).length ≤ 5 ^ k
  | 0, z, u => by
    unfold cL
    split
    · exact Nat.le_refl 1
    · exact Nat.zero_le _
  | k + 1, z, u => by
    unfold cL
    split
    · exact Nat.zero_le _
    · rw [Nat.pow_succ, Nat.mul_comm]
      exact cS_len (fun z u => cL_len k z u) 4
theorem cL_9 {S : qS} (hP : sP S ≤ 9) {z u : Nat → Nat} : (cL S (sP S) z u).length < 1000000000 :=
  Nat.lt_of_le_of_lt (Nat.le_trans (cL_len _ z u) (Nat.pow_le_pow_right (n := 5) (by decide) hP)) (by decide)
def crO (a b c d : Int32) : Prop := (0 ≤ a ∧ a ≤ 8) ∧ (0 ≤ b ∧ b ≤ 8) ∧ (0 ≤ c ∧ c ≤ 8) ∧ (0 ≤ d ∧ d ≤ 8) ∧ (0 ≤ a + b + c + d ∧ a + b + c + d ≤ 8)
set_option maxRecDepth 100000 in
set_option maxHeartbeats 400000 in
theorem b_count {G : jG} {d : Nat} {b bw bs q ql qh : Nat} {u : Nat → Nat} {S : qS} (hS : wf S) (hP : sP S ≤ 9) {e : Nat} (he : 1 ≤ e) (he2 : e < 2 ^ 30) (hu : uS u ≤ 8) : Ct G yX0_count cX0_count 3 (some .int) (d + 25) 0 0 [.ref b, .ref q, .int (nI e)] (bX G b bw bs (u) (fun _ => 4) ++ wS G q ql qh S) (lQ G b bw bs q ql qh S (cL S (sP S) (fun _ => 4) u) (e) (u) (fun _ => 4)) := by
  refine ct_of (by decide) (Nat.le_of_ble_eq_true rfl) (own := RX0) (nm := "count") rfl rfl (lv := [some (.ref b), some (.ref q), some (.int (nI e))]) rfl ?_
  refine r_aload_n 0 dX0_count_0 rfl ?_
  refine r_ifnonnull 1 8 dX0_count_1 (by decide) ?_
  refine r_aload_n 8 dX0_count_8 rfl ?_
  refine r_aload_n 9 dX0_count_9 rfl ?_
  refine r_iconst (v := 0) 10 dX0_count_10 (by decide) ?_
  refine r_ti (y := nI 0) (nI_0.symm) ?_
  refine r_iload_n 11 dX0_count_11 rfl ?_
  refine r_callV (wr := []) 12 s_X0_31 dX0_count_12 (b_from24 hS hP he he2 hu) rfl rfl 0 rfl rfl rfl [0, 1, 2, 3, 4, 5] [] rfl rfl rfl rfl (by decide) jRm_ok (Nat.le_of_ble_eq_true rfl) ⟨(Nat.le_of_ble_eq_true rfl), (Nat.le_of_ble_eq_true rfl)⟩ (fun v w1 hq => ?_)
  obtain ⟨r, u2, z2, rfl, rfl, hr⟩ := hq
  exact r_iret 15 dX0_count_15 rfl rfl (Nat.le_of_ble_eq_true rfl) (Nat.le_of_ble_eq_true rfl) (⟨r, u2, z2, rfl, rfl, hr⟩)
set_option maxRecDepth 100000 in
set_option maxHeartbeats 400000 in
theorem c_crowd0 {G : jG} {d : Nat} {v : Int32} (h : ¬ (0 ≤ v ∧ v ≤ 8)) : Ct G yX2_isCrowd cX2_isCrowd 1 (some .boolean) (d + 2) 0 0 [.int v] [] (jD (some (.int 0)) []) := by
  refine ct_of (by decide) (Nat.le_of_ble_eq_true rfl) (own := RX2) (nm := "isCrowd") rfl rfl (lv := [some (.int v)]) rfl ?_
  refine r_iload_n 0 dX2_isCrowd_0 rfl ?_
  refine r_iconst (v := 0) 1 dX2_isCrowd_1 (by decide) ?_
  refine r_bipush (v := 8) 2 dX2_isCrowd_2 (by decide) ?_
  refine r_callSD (ws2 := []) (wr := []) 4 s_X2_46 dX2_isCrowd_4 (c_isW0 h) rfl rfl [] [] rfl rfl rfl rfl (by decide) jRm_ok (Nat.le_of_ble_eq_true rfl) ⟨(Nat.le_of_ble_eq_true rfl), (Nat.le_of_ble_eq_true rfl)⟩ [] rfl rfl ?_
  exact r_iret 7 dX2_isCrowd_7 rfl rfl (Nat.le_of_ble_eq_true rfl) (Nat.le_of_ble_eq_true rfl) (jd rfl)
set_option maxRecDepth 100000 in
set_option maxHeartbeats 400000 in
theorem c_crowd1 {G : jG} {d : Nat} {v : Int32} (h : 0 ≤ v ∧ v ≤ 8) : Ct G yX2_isCrowd cX2_isCrowd 1 (some .boolean) (d + 2) 0 0 [.int v] [] (jD (some (.int 1)) []) := by
  refine ct_of (by decide) (Nat.le_of_ble_eq_true rfl) (own := RX2) (nm := "isCrowd") rfl rfl (lv := [some (.int v)]) rfl ?_
  refine r_iload_n 0 dX2_isCrowd_0 rfl ?_
  refine r_iconst (v := 0) 1 dX2_isCrowd_1 (by decide) ?_
  refine r_bipush (v := 8) 2 dX2_isCrowd_2 (by decide) ?_
  refine r_callSD (ws2 := []) (wr := []) 4 s_X2_46 dX2_isCrowd_4 (c_isW h) rfl rfl [] [] rfl rfl rfl rfl (by decide) jRm_ok (Nat.le_of_ble_eq_true rfl) ⟨(Nat.le_of_ble_eq_true rfl), (Nat.le_of_ble_eq_true rfl)⟩ [] rfl rfl ?_
  exact r_iret 7 dX2_isCrowd_7 rfl rfl (Nat.le_of_ble_eq_true rfl) (Nat.le_of_ble_eq_true rfl) (jd rfl)
theorem c_crowd {G : jG} {d : Nat} {v : Int32} : Ct G yX2_isCrowd cX2_isCrowd 1 (some .boolean) (d + 2) 0 0 [.int v] [] (jD (some (.int (bP (0 ≤ v ∧ v ≤ 8)))) []) := by
  by_cases h : 0 ≤ v ∧ v ≤ 8
  · rw [bP_t h]
    exact c_crowd1 h
  · rw [bP_f h]
    exact c_crowd0 h
theorem cr_1 {a b : Nat} (h : a ≤ 8) : (0 : Int32) ≤ nI a ∧ nI a ≤ 8 := le_nI h (by decide)
set_option maxRecDepth 100000 in
set_option maxHeartbeats 400000 in
theorem h_ref0 {G : jG} {d : Nat} {x q t ai b pa ql qh : Nat} {sg : Int32} {ov : Value} {S : qS} (hS : wf S) {a1 a2 a3 a4 : Nat} (ha : a1 + a2 + a3 + a4 ≤ 8) (hP : sP S ≤ 9) : Ct G yX2_refusalOfSleepers cX2_refusalOfSleepers 5 (some .int) (d + 3) 0 0 [.ref x, .int (nI a1), .int (nI a2), .int (nI a3), .int (nI a4)] (hX x q t ai b pa sg ov :: (wS G q ql qh (S))) (jD (some (.int 0)) (hX x q t ai b pa sg ov :: (wS G q ql qh (S)))) := by
  refine ct_of (by decide) (Nat.le_of_ble_eq_true rfl) (own := RX2) (nm := "refusalOfSleepers") rfl rfl (lv := [some (.ref x), some (.int (nI a1)), some (.int (nI a2)), some (.int (nI a3)), some (.int (nI a4))]) rfl ?_
  refine r_iload_n 0 dX2_refusalOfSleepers_0 rfl ?_
  refine r_callSD (ws2 := [_, _, _, _]) (wr := [_, _, _, _]) 1 s_X2_216 dX2_refusalOfSleepers_1 (c_crowd1 (le_nI (c := 8) (by omega) (by decide))) rfl rfl [] [0, 1, 2, 3] rfl rfl rfl rfl (by decide) jRm_ok (Nat.le_of_ble_eq_true rfl) ⟨(Nat.le_of_ble_eq_true rfl), (Nat.le_of_ble_eq_true rfl)⟩ [0, 1, 2, 3] rfl rfl ?_
  refine r_if_eqF 4 43 dX2_refusalOfSleepers_4 (by decide) (by decide) ?_
  refine r_iload_n 7 dX2_refusalOfSleepers_7 rfl ?_
  refine r_callSD (ws2 := [_, _, _, _]) (wr := [_, _, _, _]) 8 s_X2_216 dX2_refusalOfSleepers_8 (c_crowd1 (le_nI (c := 8) (by omega) (by decide))) rfl rfl [] [0, 1, 2, 3] rfl rfl rfl rfl (by decide) jRm_ok (Nat.le_of_ble_eq_true rfl) ⟨(Nat.le_of_ble_eq_true rfl), (Nat.le_of_ble_eq_true rfl)⟩ [0, 1, 2, 3] rfl rfl ?_
  refine r_if_eqF 11 43 dX2_refusalOfSleepers_11 (by decide) (by decide) ?_
  refine r_iload_n 14 dX2_refusalOfSleepers_14 rfl ?_
  refine r_callSD (ws2 := [_, _, _, _]) (wr := [_, _, _, _]) 15 s_X2_216 dX2_refusalOfSleepers_15 (c_crowd1 (le_nI (c := 8) (by omega) (by decide))) rfl rfl [] [0, 1, 2, 3] rfl rfl rfl rfl (by decide) jRm_ok (Nat.le_of_ble_eq_true rfl) ⟨(Nat.le_of_ble_eq_true rfl), (Nat.le_of_ble_eq_true rfl)⟩ [0, 1, 2, 3] rfl rfl ?_
  refine r_if_eqF 18 43 dX2_refusalOfSleepers_18 (by decide) (by decide) ?_
  refine r_iload 21 dX2_refusalOfSleepers_21 rfl ?_
  refine r_callSD (ws2 := [_, _, _, _]) (wr := [_, _, _, _]) 23 s_X2_216 dX2_refusalOfSleepers_23 (c_crowd1 (le_nI (c := 8) (by omega) (by decide))) rfl rfl [] [0, 1, 2, 3] rfl rfl rfl rfl (by decide) jRm_ok (Nat.le_of_ble_eq_true rfl) ⟨(Nat.le_of_ble_eq_true rfl), (Nat.le_of_ble_eq_true rfl)⟩ [0, 1, 2, 3] rfl rfl ?_
  refine r_if_eqF 26 43 dX2_refusalOfSleepers_26 (by decide) (by decide) ?_
  refine r_iload_n 29 dX2_refusalOfSleepers_29 rfl ?_
  refine r_iload_n 30 dX2_refusalOfSleepers_30 rfl ?_
  refine r_iadd 31 dX2_refusalOfSleepers_31 ?_
  refine r_ti (y := nI (a1 + a2)) ((Int32.ofNat_add a1 a2).symm) ?_
  refine r_iload_n 32 dX2_refusalOfSleepers_32 rfl ?_
  refine r_iadd 33 dX2_refusalOfSleepers_33 ?_
  refine r_ti (y := nI (a1 + a2 + a3)) ((Int32.ofNat_add _ _).symm) ?_
  refine r_iload 34 dX2_refusalOfSleepers_34 rfl ?_
  refine r_iadd 36 dX2_refusalOfSleepers_36 ?_
  refine r_ti (y := nI (a1 + a2 + a3 + a4)) ((Int32.ofNat_add _ _).symm) ?_
  refine r_callSD (ws2 := [_, _, _, _]) (wr := [_, _, _, _]) 37 s_X2_216 dX2_refusalOfSleepers_37 (c_crowd1 (le_nI (c := 8) (by omega) (by decide))) rfl rfl [] [0, 1, 2, 3] rfl rfl rfl rfl (by decide) jRm_ok (Nat.le_of_ble_eq_true rfl) ⟨(Nat.le_of_ble_eq_true rfl), (Nat.le_of_ble_eq_true rfl)⟩ [0, 1, 2, 3] rfl rfl ?_
  refine r_if_neT 40 46 dX2_refusalOfSleepers_40 (by decide) (by decide) ?_
  refine r_aload_n 46 dX2_refusalOfSleepers_46 rfl ?_
  refine r_get 47 f_X2_10 dX2_refusalOfSleepers_47 0 rfl rfl ?_
  refine r_callVD (ws2 := [_, _, _, _]) (wr := [_]) 50 s_X2_50 dX2_refusalOfSleepers_50 (q_places) rfl rfl 0 rfl rfl rfl [1, 2, 3] [0] rfl rfl rfl rfl (by decide) jRm_ok (Nat.le_of_ble_eq_true rfl) ⟨(Nat.le_of_ble_eq_true rfl), (Nat.le_of_ble_eq_true rfl)⟩ [0, 1, 2, 3] rfl rfl ?_
  refine r_bipush (v := 9) 53 dX2_refusalOfSleepers_53 (by decide) ?_
  refine r_icmp_leT 55 63 dX2_refusalOfSleepers_55 (by decide) (nI_le (b := 9) hP (by decide)) ?_
  refine r_iconst (v := 0) 63 dX2_refusalOfSleepers_63 (by decide) ?_
  exact r_iret 64 dX2_refusalOfSleepers_64 rfl rfl (Nat.le_of_ble_eq_true rfl) (Nat.le_of_ble_eq_true rfl) (jd rfl)
set_option maxRecDepth 100000 in
set_option maxHeartbeats 400000 in
theorem h_refF {G : jG} {d : Nat} {x q t ai b pa ql qh : Nat} {sg : Int32} {ov : Value} {S : qS} (hS : wf S) {a1 a2 a3 a4 : Nat} (ha : a1 + a2 + a3 + a4 ≤ 8) (hP : 9 < sP S) : Ct G yX2_refusalOfSleepers cX2_refusalOfSleepers 5 (some .int) (d + 3) 0 0 [.ref x, .int (nI a1), .int (nI a2), .int (nI a3), .int (nI a4)] (hX x q t ai b pa sg ov :: (wS G q ql qh (S))) (jD (some (.int (-4))) (hX x q t ai b pa sg ov :: (wS G q ql qh (S)))) := by
  refine ct_of (by decide) (Nat.le_of_ble_eq_true rfl) (own := RX2) (nm := "refusalOfSleepers") rfl rfl (lv := [some (.ref x), some (.int (nI a1)), some (.int (nI a2)), some (.int (nI a3)), some (.int (nI a4))]) rfl ?_
  refine r_iload_n 0 dX2_refusalOfSleepers_0 rfl ?_
  refine r_callSD (ws2 := [_, _, _, _]) (wr := [_, _, _, _]) 1 s_X2_216 dX2_refusalOfSleepers_1 (c_crowd1 (le_nI (c := 8) (by omega) (by decide))) rfl rfl [] [0, 1, 2, 3] rfl rfl rfl rfl (by decide) jRm_ok (Nat.le_of_ble_eq_true rfl) ⟨(Nat.le_of_ble_eq_true rfl), (Nat.le_of_ble_eq_true rfl)⟩ [0, 1, 2, 3] rfl rfl ?_
  refine r_if_eqF 4 43 dX2_refusalOfSleepers_4 (by decide) (by decide) ?_
  refine r_iload_n 7 dX2_refusalOfSleepers_7 rfl ?_
  refine r_callSD (ws2 := [_, _, _, _]) (wr := [_, _, _, _]) 8 s_X2_216 dX2_refusalOfSleepers_8 (c_crowd1 (le_nI (c := 8) (by omega) (by decide))) rfl rfl [] [0, 1, 2, 3] rfl rfl rfl rfl (by decide) jRm_ok (Nat.le_of_ble_eq_true rfl) ⟨(Nat.le_of_ble_eq_true rfl), (Nat.le_of_ble_eq_true rfl)⟩ [0, 1, 2, 3] rfl rfl ?_
  refine r_if_eqF 11 43 dX2_refusalOfSleepers_11 (by decide) (by decide) ?_
  refine r_iload_n 14 dX2_refusalOfSleepers_14 rfl ?_
  refine r_callSD (ws2 := [_, _, _, _]) (wr := [_, _, _, _]) 15 s_X2_216 dX2_refusalOfSleepers_15 (c_crowd1 (le_nI (c := 8) (by omega) (by decide))) rfl rfl [] [0, 1, 2, 3] rfl rfl rfl rfl (by decide) jRm_ok (Nat.le_of_ble_eq_true rfl) ⟨(Nat.le_of_ble_eq_true rfl), (Nat.le_of_ble_eq_true rfl)⟩ [0, 1, 2, 3] rfl rfl ?_
  refine r_if_eqF 18 43 dX2_refusalOfSleepers_18 (by decide) (by decide) ?_
  refine r_iload 21 dX2_refusalOfSleepers_21 rfl ?_
  refine r_callSD (ws2 := [_, _, _, _]) (wr := [_, _, _, _]) 23 s_X2_216 dX2_refusalOfSleepers_23 (c_crowd1 (le_nI (c := 8) (by omega) (by decide))) rfl rfl [] [0, 1, 2, 3] rfl rfl rfl rfl (by decide) jRm_ok (Nat.le_of_ble_eq_true rfl) ⟨(Nat.le_of_ble_eq_true rfl), (Nat.le_of_ble_eq_true rfl)⟩ [0, 1, 2, 3] rfl rfl ?_
  refine r_if_eqF 26 43 dX2_refusalOfSleepers_26 (by decide) (by decide) ?_
  refine r_iload_n 29 dX2_refusalOfSleepers_29 rfl ?_
  refine r_iload_n 30 dX2_refusalOfSleepers_30 rfl ?_
  refine r_iadd 31 dX2_refusalOfSleepers_31 ?_
  refine r_ti (y := nI (a1 + a2)) ((Int32.ofNat_add a1 a2).symm) ?_
  refine r_iload_n 32 dX2_refusalOfSleepers_32 rfl ?_
  refine r_iadd 33 dX2_refusalOfSleepers_33 ?_
  refine r_ti (y := nI (a1 + a2 + a3)) ((Int32.ofNat_add _ _).symm) ?_
  refine r_iload 34 dX2_refusalOfSleepers_34 rfl ?_
  refine r_iadd 36 dX2_refusalOfSleepers_36 ?_
  refine r_ti (y := nI (a1 + a2 + a3 + a4)) ((Int32.ofNat_add _ _).symm) ?_
  refine r_callSD (ws2 := [_, _, _, _]) (wr := [_, _, _, _]) 37 s_X2_216 dX2_refusalOfSleepers_37 (c_crowd1 (le_nI (c := 8) (by omega) (by decide))) rfl rfl [] [0, 1, 2, 3] rfl rfl rfl rfl (by decide) jRm_ok (Nat.le_of_ble_eq_true rfl) ⟨(Nat.le_of_ble_eq_true rfl), (Nat.le_of_ble_eq_true rfl)⟩ [0, 1, 2, 3] rfl rfl ?_
  refine r_if_neT 40 46 dX2_refusalOfSleepers_40 (by decide) (by decide) ?_
  refine r_aload_n 46 dX2_refusalOfSleepers_46 rfl ?_
  refine r_get 47 f_X2_10 dX2_refusalOfSleepers_47 0 rfl rfl ?_
  refine r_callVD (ws2 := [_, _, _, _]) (wr := [_]) 50 s_X2_50 dX2_refusalOfSleepers_50 (q_places) rfl rfl 0 rfl rfl rfl [1, 2, 3] [0] rfl rfl rfl rfl (by decide) jRm_ok (Nat.le_of_ble_eq_true rfl) ⟨(Nat.le_of_ble_eq_true rfl), (Nat.le_of_ble_eq_true rfl)⟩ [0, 1, 2, 3] rfl rfl ?_
  refine r_bipush (v := 9) 53 dX2_refusalOfSleepers_53 (by decide) ?_
  refine r_icmp_leF 55 63 dX2_refusalOfSleepers_55 (by decide) (fun z => absurd ((nI_leI (a := sP S) (b := 9) (by have := hS.p16; omega) (by decide)).mp z) (by omega)) ?_
  refine r_bipush (v := -4) 58 dX2_refusalOfSleepers_58 (by decide) ?_
  refine r_goto 60 64 dX2_refusalOfSleepers_60 (by decide) ?_
  exact r_iret 64 dX2_refusalOfSleepers_64 rfl rfl (Nat.le_of_ble_eq_true rfl) (Nat.le_of_ble_eq_true rfl) (jd rfl)
set_option maxRecDepth 100000 in
set_option maxHeartbeats 400000 in
theorem h_refO {G : jG} {d : Nat} {x q t ai b pa ql qh : Nat} {sg : Int32} {ov : Value} {S : qS} {a1 a2 a3 a4 : Int32} (h : ¬ crO a1 a2 a3 a4) : Ct G yX2_refusalOfSleepers cX2_refusalOfSleepers 5 (some .int) (d + 3) 0 0 [.ref x, .int a1, .int a2, .int a3, .int a4] (hX x q t ai b pa sg ov :: (wS G q ql qh (S))) (jD (some (.int (-2))) (hX x q t ai b pa sg ov :: (wS G q ql qh (S)))) := by
  refine ct_of (by decide) (Nat.le_of_ble_eq_true rfl) (own := RX2) (nm := "refusalOfSleepers") rfl rfl (lv := [some (.ref x), some (.int a1), some (.int a2), some (.int a3), some (.int a4)]) rfl ?_
  refine r_iload_n 0 dX2_refusalOfSleepers_0 rfl ?_
  refine r_callSD (ws2 := [_, _, _, _]) (wr := [_, _, _, _]) 1 s_X2_216 dX2_refusalOfSleepers_1 (c_crowd) rfl rfl [] [0, 1, 2, 3] rfl rfl rfl rfl (by decide) jRm_ok (Nat.le_of_ble_eq_true rfl) ⟨(Nat.le_of_ble_eq_true rfl), (Nat.le_of_ble_eq_true rfl)⟩ [0, 1, 2, 3] rfl rfl ?_
  refine r_if_eqB 4 43 dX2_refusalOfSleepers_4 (by decide) (fun c_4 => ?_) (fun c_4 => ?_)
  · -- 4T
    refine r_bipush (v := -2) 43 dX2_refusalOfSleepers_43 (by decide) ?_
    exact r_iret 45 dX2_refusalOfSleepers_45 rfl rfl (Nat.le_of_ble_eq_true rfl) (Nat.le_of_ble_eq_true rfl) (jd rfl)
  · -- 4F
    refine r_iload_n 7 dX2_refusalOfSleepers_7 rfl ?_
    refine r_callSD (ws2 := [_, _, _, _]) (wr := [_, _, _, _]) 8 s_X2_216 dX2_refusalOfSleepers_8 (c_crowd) rfl rfl [] [0, 1, 2, 3] rfl rfl rfl rfl (by decide) jRm_ok (Nat.le_of_ble_eq_true rfl) ⟨(Nat.le_of_ble_eq_true rfl), (Nat.le_of_ble_eq_true rfl)⟩ [0, 1, 2, 3] rfl rfl ?_
    refine r_if_eqB 11 43 dX2_refusalOfSleepers_11 (by decide) (fun c_11 => ?_) (fun c_11 => ?_)
    · -- 11T
      refine r_bipush (v := -2) 43 dX2_refusalOfSleepers_43 (by decide) ?_
      exact r_iret 45 dX2_refusalOfSleepers_45 rfl rfl (Nat.le_of_ble_eq_true rfl) (Nat.le_of_ble_eq_true rfl) (jd rfl)
    · -- 11F
      refine r_iload_n 14 dX2_refusalOfSleepers_14 rfl ?_
      refine r_callSD (ws2 := [_, _, _, _]) (wr := [_, _, _, _]) 15 s_X2_216 dX2_refusalOfSleepers_15 (c_crowd) rfl rfl [] [0, 1, 2, 3] rfl rfl rfl rfl (by decide) jRm_ok (Nat.le_of_ble_eq_true rfl) ⟨(Nat.le_of_ble_eq_true rfl), (Nat.le_of_ble_eq_true rfl)⟩ [0, 1, 2, 3] rfl rfl ?_
      refine r_if_eqB 18 43 dX2_refusalOfSleepers_18 (by decide) (fun c_18 => ?_) (fun c_18 => ?_)
      · -- 18T
        refine r_bipush (v := -2) 43 dX2_refusalOfSleepers_43 (by decide) ?_
        exact r_iret 45 dX2_refusalOfSleepers_45 rfl rfl (Nat.le_of_ble_eq_true rfl) (Nat.le_of_ble_eq_true rfl) (jd rfl)
      · -- 18F
        refine r_iload 21 dX2_refusalOfSleepers_21 rfl ?_
        refine r_callSD (ws2 := [_, _, _, _]) (wr := [_, _, _, _]) 23 s_X2_216 dX2_refusalOfSleepers_23 (c_crowd) rfl rfl [] [0, 1, 2, 3] rfl rfl rfl rfl (by decide) jRm_ok (Nat.le_of_ble_eq_true rfl) ⟨(Nat.le_of_ble_eq_true rfl), (Nat.le_of_ble_eq_true rfl)⟩ [0, 1, 2, 3] rfl rfl ?_
        refine r_if_eqB 26 43 dX2_refusalOfSleepers_26 (by decide) (fun c_26 => ?_) (fun c_26 => ?_)
        · -- 26T
          refine r_bipush (v := -2) 43 dX2_refusalOfSleepers_43 (by decide) ?_
          exact r_iret 45 dX2_refusalOfSleepers_45 rfl rfl (Nat.le_of_ble_eq_true rfl) (Nat.le_of_ble_eq_true rfl) (jd rfl)
        · -- 26F
          refine r_iload_n 29 dX2_refusalOfSleepers_29 rfl ?_
          refine r_iload_n 30 dX2_refusalOfSleepers_30 rfl ?_
          refine r_iadd 31 dX2_refusalOfSleepers_31 ?_
          refine r_iload_n 32 dX2_refusalOfSleepers_32 rfl ?_
          refine r_iadd 33 dX2_refusalOfSleepers_33 ?_
          refine r_iload 34 dX2_refusalOfSleepers_34 rfl ?_
          refine r_iadd 36 dX2_refusalOfSleepers_36 ?_
          refine r_callSD (ws2 := [_, _, _, _]) (wr := [_, _, _, _]) 37 s_X2_216 dX2_refusalOfSleepers_37 (c_crowd) rfl rfl [] [0, 1, 2, 3] rfl rfl rfl rfl (by decide) jRm_ok (Nat.le_of_ble_eq_true rfl) ⟨(Nat.le_of_ble_eq_true rfl), (Nat.le_of_ble_eq_true rfl)⟩ [0, 1, 2, 3] rfl rfl ?_
          refine r_if_neB 40 46 dX2_refusalOfSleepers_40 (by decide) (fun c_40 => ?_) (fun c_40 => ?_)
          · -- 40T
            exact absurd ⟨c_4, c_11, c_18, c_26, c_40⟩ h
          · -- 40F
            refine r_bipush (v := -2) 43 dX2_refusalOfSleepers_43 (by decide) ?_
            exact r_iret 45 dX2_refusalOfSleepers_45 rfl rfl (Nat.le_of_ble_eq_true rfl) (Nat.le_of_ble_eq_true rfl) (jd rfl)
set_option maxRecDepth 100000 in
set_option maxHeartbeats 400000 in
theorem h_placings {G : jG} {d : Nat} {bw bs x q t ai b pa ql qh : Nat} {sg : Int32} {ov : Value} {S : qS} (hS : wf S) {a1 a2 a3 a4 : Nat} (ha : a1 + a2 + a3 + a4 ≤ 8) (hP : sP S ≤ 9) {w0 s0 : Nat → Int32} {i0 t0 : Int32} : Ct G yX2_placings cX2_placings 6 (some .int) (d + 26) 0 0 [.ref x, .int (nI a1), .int (nI a2), .int (nI a3), .int (nI a4)] ((hX x q t ai b pa sg ov :: (wS G q ql qh (S))) ++ [(b, .inr (0, [.ref bw, .int i0, .ref bs, .int t0])), (bw, .inl (G.2.2.1, 4, .inl w0)), (bs, .inl (G.2.2.1, 9, .inl s0))]) (fun v w => ∃ u2 z2 : Nat → Nat, v = some (.int (nI (cL S (sP S) (fun _ => 4) (bU a1 a2 a3 a4)).length)) ∧ w = ((hX x q t ai b pa sg ov :: (wS G q ql qh (S))) ++ bX G b bw bs (u2) (z2))) := by
  refine ct_of (by decide) (Nat.le_of_ble_eq_true rfl) (own := RX2) (nm := "placings") rfl rfl (lv := [some (.ref x), some (.int (nI a1)), some (.int (nI a2)), some (.int (nI a3)), some (.int (nI a4)), none]) rfl ?_
  refine r_aload_n 0 dX2_placings_0 rfl ?_
  refine r_iload_n 1 dX2_placings_1 rfl ?_
  refine r_iload_n 2 dX2_placings_2 rfl ?_
  refine r_iload_n 3 dX2_placings_3 rfl ?_
  refine r_iload 4 dX2_placings_4 rfl ?_
  refine r_callVD (ws2 := [_, _, _, _, _, _, _]) (wr := [_, _, _]) 6 s_X2_174 dX2_placings_6 (h_ref0 hS ha hP) rfl rfl 0 rfl rfl rfl [0, 1, 2, 3] [4, 5, 6] rfl rfl rfl rfl (by decide) jRm_ok (Nat.le_of_ble_eq_true rfl) ⟨(Nat.le_of_ble_eq_true rfl), (Nat.le_of_ble_eq_true rfl)⟩ [3, 4, 5, 6, 0, 1, 2] rfl rfl ?_
  refine r_istore (lv2 := [_, _, _, _, _, _]) 9 dX2_placings_9 (by decide) rfl rfl ?_
  refine r_iload 11 dX2_placings_11 rfl ?_
  refine r_if_eqT 13 19 dX2_placings_13 (by decide) (by decide) ?_
  refine r_aload_n 19 dX2_placings_19 rfl ?_
  refine r_get 20 f_X2_26 dX2_placings_20 0 rfl rfl ?_
  refine r_iload_n 23 dX2_placings_23 rfl ?_
  refine r_iload_n 24 dX2_placings_24 rfl ?_
  refine r_iload_n 25 dX2_placings_25 rfl ?_
  refine r_iload 26 dX2_placings_26 rfl ?_
  refine r_callVD (ws2 := [_, _, _, _, _, _, _]) (wr := [_, _, _, _]) 28 s_X2_178 dX2_placings_28 (b_gather) rfl rfl 0 rfl rfl rfl [4, 5, 6] [0, 1, 2, 3] rfl rfl rfl rfl (by decide) jRm_ok (Nat.le_of_ble_eq_true rfl) ⟨(Nat.le_of_ble_eq_true rfl), (Nat.le_of_ble_eq_true rfl)⟩ [0, 1, 2, 3, 4, 5, 6] rfl rfl ?_
  refine r_aload_n 31 dX2_placings_31 rfl ?_
  refine r_get 32 f_X2_26 dX2_placings_32 0 rfl rfl ?_
  refine r_aload_n 35 dX2_placings_35 rfl ?_
  refine r_get 36 f_X2_10 dX2_placings_36 0 rfl rfl ?_
  refine r_ldc 39 q_X2_182 dX2_placings_39 ?_
  refine r_ti (y := nI 1000000000) (rfl) ?_
  refine r_callV (wr := [_]) 41 s_X2_183 dX2_placings_41 (b_count hS hP (e := 1000000000) (by decide) (by decide) (u := bU a1 a2 a3 a4) ha) rfl rfl 0 rfl rfl rfl [4, 5, 6, 1, 2, 3] [0] rfl rfl rfl rfl (by decide) jRm_ok (Nat.le_of_ble_eq_true rfl) ⟨(Nat.le_of_ble_eq_true rfl), (Nat.le_of_ble_eq_true rfl)⟩ (fun v w1 hq => ?_)
  obtain ⟨r, u2, z2, rfl, rfl, hr⟩ := hq
  have hr2 : r = (cL S (sP S) (fun _ => 4) (bU a1 a2 a3 a4)).length := by
    rcases hr with ⟨_, h2, _⟩ | ⟨h1, _, _⟩
    · exact h2
    · exact absurd h1 (Nat.not_le.mpr (cL_9 hP))
  refine r_sub (ws2 := ((hX x q t ai b pa sg ov :: (wS G q ql qh (S))) ++ bX G b bw bs (u2) (z2))) [0, 4, 5, 6, 1, 2, 3] rfl rfl ?_
  exact r_iret 44 dX2_placings_44 rfl rfl (Nat.le_of_ble_eq_true rfl) (Nat.le_of_ble_eq_true rfl) (⟨u2, z2, by rw [hr2], rfl⟩)
def plV (l : List (Nat → Nat)) (p : Nat) : Int32 := match l[0]? with
  | none => -6
  | some z => fI (z p)
theorem plV_0 {l : List (Nat → Nat)} {u z u2 z2 : Nat → Nat} {p : Nat} (h : lR l 1 u z 0 u2 z2) : (-6 : Int32) = plV l p := by
  rcases h with ⟨h1, _, _⟩ | ⟨_, h2, _⟩
  · rw [show l = [] from List.eq_nil_of_length_eq_zero (by omega)]
    rfl
  · omega
theorem plV_1 {l : List (Nat → Nat)} {u z u2 z2 : Nat → Nat} {p r : Nat} (h : lR l 1 u z r u2 z2) (hr : ¬ r = 0) : fI (z2 p) = plV l p := by
  rcases h with ⟨h1, h2, _⟩ | ⟨_, _, h3⟩
  · omega
  · have h4 : l[0]? = some z2 := h3
    unfold plV
    rw [h4]
set_option maxRecDepth 100000 in
set_option maxHeartbeats 400000 in
theorem h_placed {G : jG} {d : Nat} {bw bs x q t ai b pa ql qh : Nat} {sg : Int32} {ov : Value} {S : qS} (hS : wf S) {a1 a2 a3 a4 : Nat} (ha : a1 + a2 + a3 + a4 ≤ 8) (hP : sP S ≤ 9) {pp : Nat} (hp : pp < sP S) {w0 s0 : Nat → Int32} {i0 t0 : Int32} : Ct G yX2_placed cX2_placed 7 (some .int) (d + 26) 0 0 [.ref x, .int (nI a1), .int (nI a2), .int (nI a3), .int (nI a4), .int (nI pp)] ((hX x q t ai b pa sg ov :: (wS G q ql qh (S))) ++ [(b, .inr (0, [.ref bw, .int i0, .ref bs, .int t0])), (bw, .inl (G.2.2.1, 4, .inl w0)), (bs, .inl (G.2.2.1, 9, .inl s0))]) (fun v w => ∃ u2 z2 : Nat → Nat, v = some (.int (plV (cL S (sP S) (fun _ => 4) (bU a1 a2 a3 a4)) pp)) ∧ w = ((hX x q t ai b pa sg ov :: (wS G q ql qh (S))) ++ bX G b bw bs (u2) (z2))) := by
  refine ct_of (by decide) (Nat.le_of_ble_eq_true rfl) (own := RX2) (nm := "placed") rfl rfl (lv := [some (.ref x), some (.int (nI a1)), some (.int (nI a2)), some (.int (nI a3)), some (.int (nI a4)), some (.int (nI pp)), none]) rfl ?_
  refine r_aload_n 0 dX2_placed_0 rfl ?_
  refine r_get 1 f_X2_10 dX2_placed_1 0 rfl rfl ?_
  refine r_iload 4 dX2_placed_4 rfl ?_
  refine r_callVD (ws2 := [_, _, _, _, _, _, _]) (wr := [_, _, _, _]) 6 s_X2_76 dX2_placed_6 (c_X1_isPlace) rfl rfl 0 rfl rfl rfl [1, 2, 3] [0, 4, 5, 6] rfl rfl rfl rfl (by decide) jRm_ok (Nat.le_of_ble_eq_true rfl) ⟨(Nat.le_of_ble_eq_true rfl), (Nat.le_of_ble_eq_true rfl)⟩ [0, 4, 5, 6, 1, 2, 3] rfl rfl ?_
  refine r_if_neB 9 14 dX2_placed_9 (by decide) (fun c_9 => ?_) (fun c_9 => ?_)
  · -- 9T
    refine r_aload_n 14 dX2_placed_14 rfl ?_
    refine r_iload_n 15 dX2_placed_15 rfl ?_
    refine r_iload_n 16 dX2_placed_16 rfl ?_
    refine r_iload_n 17 dX2_placed_17 rfl ?_
    refine r_iload 18 dX2_placed_18 rfl ?_
    refine r_callVD (ws2 := [_, _, _, _, _, _, _]) (wr := [_, _, _]) 20 s_X2_174 dX2_placed_20 (h_ref0 hS ha hP) rfl rfl 0 rfl rfl rfl [0, 1, 2, 3] [4, 5, 6] rfl rfl rfl rfl (by decide) jRm_ok (Nat.le_of_ble_eq_true rfl) ⟨(Nat.le_of_ble_eq_true rfl), (Nat.le_of_ble_eq_true rfl)⟩ [3, 4, 5, 6, 0, 1, 2] rfl rfl ?_
    refine r_istore (lv2 := [_, _, _, _, _, _, _]) 23 dX2_placed_23 (by decide) rfl rfl ?_
    refine r_iload 25 dX2_placed_25 rfl ?_
    refine r_if_eqT 27 33 dX2_placed_27 (by decide) (by decide) ?_
    refine r_aload_n 33 dX2_placed_33 rfl ?_
    refine r_get 34 f_X2_26 dX2_placed_34 0 rfl rfl ?_
    refine r_iload_n 37 dX2_placed_37 rfl ?_
    refine r_iload_n 38 dX2_placed_38 rfl ?_
    refine r_iload_n 39 dX2_placed_39 rfl ?_
    refine r_iload 40 dX2_placed_40 rfl ?_
    refine r_callVD (ws2 := [_, _, _, _, _, _, _]) (wr := [_, _, _, _]) 42 s_X2_178 dX2_placed_42 (b_gather) rfl rfl 0 rfl rfl rfl [4, 5, 6] [0, 1, 2, 3] rfl rfl rfl rfl (by decide) jRm_ok (Nat.le_of_ble_eq_true rfl) ⟨(Nat.le_of_ble_eq_true rfl), (Nat.le_of_ble_eq_true rfl)⟩ [0, 1, 2, 3, 4, 5, 6] rfl rfl ?_
    refine r_aload_n 45 dX2_placed_45 rfl ?_
    refine r_get 46 f_X2_26 dX2_placed_46 0 rfl rfl ?_
    refine r_aload_n 49 dX2_placed_49 rfl ?_
    refine r_get 50 f_X2_10 dX2_placed_50 0 rfl rfl ?_
    refine r_iconst (v := 1) 53 dX2_placed_53 (by decide) ?_
    refine r_ti (y := nI 1) (rfl) ?_
    refine r_callV (wr := [_]) 54 s_X2_183 dX2_placed_54 (b_count hS hP (e := 1) (by decide) (by decide) (u := bU a1 a2 a3 a4) ha) rfl rfl 0 rfl rfl rfl [4, 5, 6, 1, 2, 3] [0] rfl rfl rfl rfl (by decide) jRm_ok (Nat.le_of_ble_eq_true rfl) ⟨(Nat.le_of_ble_eq_true rfl), (Nat.le_of_ble_eq_true rfl)⟩ (fun v w1 hq => ?_)
    obtain ⟨r, u2, z2, rfl, rfl, hr⟩ := hq
    refine r_if_ne 57 65 dX2_placed_57 (by decide) (fun c_57 => ?_) (fun c_57 => ?_)
    · -- 57T
      have hr0 : ¬ r = 0 := fun z => c_57 (by rw [z]; rfl)
      refine r_aload_n 65 dX2_placed_65 rfl ?_
      refine r_get 66 f_X2_26 dX2_placed_66 0 rfl rfl ?_
      refine r_iload 69 dX2_placed_69 rfl ?_
      refine r_callVD (ws2 := [_, _, _, _, _, _, _]) (wr := [_, _, _, _]) 71 s_X2_187 dX2_placed_71 (b_sleeperAt (show pp < 9 by omega)) rfl rfl 0 rfl rfl rfl [1, 2, 3] [0, 4, 5, 6] rfl rfl rfl rfl (by decide) jRm_ok (Nat.le_of_ble_eq_true rfl) ⟨(Nat.le_of_ble_eq_true rfl), (Nat.le_of_ble_eq_true rfl)⟩ [0, 4, 5, 6, 1, 2, 3] rfl rfl ?_
      refine r_ti (y := plV (cL S (sP S) (fun _ => 4) (bU a1 a2 a3 a4)) pp) (plV_1 hr hr0) ?_
      refine r_sub (ws2 := ((hX x q t ai b pa sg ov :: (wS G q ql qh (S))) ++ bX G b bw bs (u2) (z2))) [0, 4, 5, 6, 1, 2, 3] rfl rfl ?_
      exact r_iret 74 dX2_placed_74 rfl rfl (Nat.le_of_ble_eq_true rfl) (Nat.le_of_ble_eq_true rfl) (⟨u2, z2, rfl, rfl⟩)
    · -- 57F
      have hr0 : r = 0 := (nI_z (by have := lR_le hr; omega)).mp c_57
      rw [hr0] at hr
      refine r_bipush (v := -6) 60 dX2_placed_60 (by decide) ?_
      refine r_ti (y := plV (cL S (sP S) (fun _ => 4) (bU a1 a2 a3 a4)) pp) (plV_0 hr) ?_
      refine r_goto 62 74 dX2_placed_62 (by decide) ?_
      refine r_sub (ws2 := ((hX x q t ai b pa sg ov :: (wS G q ql qh (S))) ++ bX G b bw bs (u2) (z2))) [0, 4, 5, 6, 1, 2, 3] rfl rfl ?_
      exact r_iret 74 dX2_placed_74 rfl rfl (Nat.le_of_ble_eq_true rfl) (Nat.le_of_ble_eq_true rfl) (⟨u2, z2, rfl, rfl⟩)
  · -- 9F
    exact absurd (plB_of hS hp) c_9
set_option maxRecDepth 100000 in
set_option maxHeartbeats 400000 in
theorem h_placingsO {G : jG} {d : Nat} {x q t ai b pa ql qh : Nat} {sg : Int32} {ov : Value} {S : qS} {a1 a2 a3 a4 : Int32} (h : ¬ crO a1 a2 a3 a4) : Ct G yX2_placings cX2_placings 6 (some .int) (d + 26) 0 0 [.ref x, .int a1, .int a2, .int a3, .int a4] (hX x q t ai b pa sg ov :: (wS G q ql qh (S))) (jD (some (.int (-2))) (hX x q t ai b pa sg ov :: (wS G q ql qh (S)))) := by
  refine ct_of (by decide) (Nat.le_of_ble_eq_true rfl) (own := RX2) (nm := "placings") rfl rfl (lv := [some (.ref x), some (.int a1), some (.int a2), some (.int a3), some (.int a4), none]) rfl ?_
  refine r_aload_n 0 dX2_placings_0 rfl ?_
  refine r_iload_n 1 dX2_placings_1 rfl ?_
  refine r_iload_n 2 dX2_placings_2 rfl ?_
  refine r_iload_n 3 dX2_placings_3 rfl ?_
  refine r_iload 4 dX2_placings_4 rfl ?_
  refine r_callVD (ws2 := [_, _, _, _]) (wr := []) 6 s_X2_174 dX2_placings_6 (h_refO h) rfl rfl 0 rfl rfl rfl [0, 1, 2, 3] [] rfl rfl rfl rfl (by decide) jRm_ok (Nat.le_of_ble_eq_true rfl) ⟨(Nat.le_of_ble_eq_true rfl), (Nat.le_of_ble_eq_true rfl)⟩ [0, 1, 2, 3] rfl rfl ?_
  refine r_istore (lv2 := [_, _, _, _, _, _]) 9 dX2_placings_9 (by decide) rfl rfl ?_
  refine r_iload 11 dX2_placings_11 rfl ?_
  refine r_if_eqF 13 19 dX2_placings_13 (by decide) (by decide) ?_
  refine r_iload 16 dX2_placings_16 rfl ?_
  exact r_iret 18 dX2_placings_18 rfl rfl (Nat.le_of_ble_eq_true rfl) (Nat.le_of_ble_eq_true rfl) (jd rfl)
set_option maxRecDepth 100000 in
set_option maxHeartbeats 400000 in
theorem h_placedO {G : jG} {d : Nat} {x q t ai b pa ql qh : Nat} {sg : Int32} {ov : Value} {S : qS} {a1 a2 a3 a4 : Int32} (h : ¬ crO a1 a2 a3 a4) (hS : wf S) {pp : Nat} (hp : pp < sP S) : Ct G yX2_placed cX2_placed 7 (some .int) (d + 26) 0 0 [.ref x, .int a1, .int a2, .int a3, .int a4, .int (nI pp)] (hX x q t ai b pa sg ov :: (wS G q ql qh (S))) (jD (some (.int (-2))) (hX x q t ai b pa sg ov :: (wS G q ql qh (S)))) := by
  refine ct_of (by decide) (Nat.le_of_ble_eq_true rfl) (own := RX2) (nm := "placed") rfl rfl (lv := [some (.ref x), some (.int a1), some (.int a2), some (.int a3), some (.int a4), some (.int (nI pp)), none]) rfl ?_
  refine r_aload_n 0 dX2_placed_0 rfl ?_
  refine r_get 1 f_X2_10 dX2_placed_1 0 rfl rfl ?_
  refine r_iload 4 dX2_placed_4 rfl ?_
  refine r_callVD (ws2 := [_, _, _, _]) (wr := [_]) 6 s_X2_76 dX2_placed_6 (c_X1_isPlace) rfl rfl 0 rfl rfl rfl [1, 2, 3] [0] rfl rfl rfl rfl (by decide) jRm_ok (Nat.le_of_ble_eq_true rfl) ⟨(Nat.le_of_ble_eq_true rfl), (Nat.le_of_ble_eq_true rfl)⟩ [0, 1, 2, 3] rfl rfl ?_
  refine r_if_neB 9 14 dX2_placed_9 (by decide) (fun c_9 => ?_) (fun c_9 => ?_)
  · -- 9T
    refine r_aload_n 14 dX2_placed_14 rfl ?_
    refine r_iload_n 15 dX2_placed_15 rfl ?_
    refine r_iload_n 16 dX2_placed_16 rfl ?_
    refine r_iload_n 17 dX2_placed_17 rfl ?_
    refine r_iload 18 dX2_placed_18 rfl ?_
    refine r_callVD (ws2 := [_, _, _, _]) (wr := []) 20 s_X2_174 dX2_placed_20 (h_refO h) rfl rfl 0 rfl rfl rfl [0, 1, 2, 3] [] rfl rfl rfl rfl (by decide) jRm_ok (Nat.le_of_ble_eq_true rfl) ⟨(Nat.le_of_ble_eq_true rfl), (Nat.le_of_ble_eq_true rfl)⟩ [0, 1, 2, 3] rfl rfl ?_
    refine r_istore (lv2 := [_, _, _, _, _, _, _]) 23 dX2_placed_23 (by decide) rfl rfl ?_
    refine r_iload 25 dX2_placed_25 rfl ?_
    refine r_if_eqF 27 33 dX2_placed_27 (by decide) (by decide) ?_
    refine r_iload 30 dX2_placed_30 rfl ?_
    exact r_iret 32 dX2_placed_32 rfl rfl (Nat.le_of_ble_eq_true rfl) (Nat.le_of_ble_eq_true rfl) (jd rfl)
  · -- 9F
    exact absurd (plB_of hS hp) c_9
set_option maxRecDepth 100000 in
set_option maxHeartbeats 400000 in
theorem h_placingsF {G : jG} {d : Nat} {x q t ai b pa ql qh : Nat} {sg : Int32} {ov : Value} {S : qS} (hS : wf S) {a1 a2 a3 a4 : Nat} (ha : a1 + a2 + a3 + a4 ≤ 8) (hP : 9 < sP S) : Ct G yX2_placings cX2_placings 6 (some .int) (d + 26) 0 0 [.ref x, .int (nI a1), .int (nI a2), .int (nI a3), .int (nI a4)] (hX x q t ai b pa sg ov :: (wS G q ql qh (S))) (jD (some (.int (-4))) (hX x q t ai b pa sg ov :: (wS G q ql qh (S)))) := by
  refine ct_of (by decide) (Nat.le_of_ble_eq_true rfl) (own := RX2) (nm := "placings") rfl rfl (lv := [some (.ref x), some (.int (nI a1)), some (.int (nI a2)), some (.int (nI a3)), some (.int (nI a4)), none]) rfl ?_
  refine r_aload_n 0 dX2_placings_0 rfl ?_
  refine r_iload_n 1 dX2_placings_1 rfl ?_
  refine r_iload_n 2 dX2_placings_2 rfl ?_
  refine r_iload_n 3 dX2_placings_3 rfl ?_
  refine r_iload 4 dX2_placings_4 rfl ?_
  refine r_callVD (ws2 := [_, _, _, _]) (wr := []) 6 s_X2_174 dX2_placings_6 (h_refF hS ha hP) rfl rfl 0 rfl rfl rfl [0, 1, 2, 3] [] rfl rfl rfl rfl (by decide) jRm_ok (Nat.le_of_ble_eq_true rfl) ⟨(Nat.le_of_ble_eq_true rfl), (Nat.le_of_ble_eq_true rfl)⟩ [0, 1, 2, 3] rfl rfl ?_
  refine r_istore (lv2 := [_, _, _, _, _, _]) 9 dX2_placings_9 (by decide) rfl rfl ?_
  refine r_iload 11 dX2_placings_11 rfl ?_
  refine r_if_eqF 13 19 dX2_placings_13 (by decide) (by decide) ?_
  refine r_iload 16 dX2_placings_16 rfl ?_
  exact r_iret 18 dX2_placings_18 rfl rfl (Nat.le_of_ble_eq_true rfl) (Nat.le_of_ble_eq_true rfl) (jd rfl)
set_option maxRecDepth 100000 in
set_option maxHeartbeats 400000 in
theorem h_placedF {G : jG} {d : Nat} {x q t ai b pa ql qh : Nat} {sg : Int32} {ov : Value} {S : qS} (hS : wf S) {a1 a2 a3 a4 : Nat} (ha : a1 + a2 + a3 + a4 ≤ 8) (hP : 9 < sP S) {pp : Nat} (hp : pp < sP S) : Ct G yX2_placed cX2_placed 7 (some .int) (d + 26) 0 0 [.ref x, .int (nI a1), .int (nI a2), .int (nI a3), .int (nI a4), .int (nI pp)] (hX x q t ai b pa sg ov :: (wS G q ql qh (S))) (jD (some (.int (-4))) (hX x q t ai b pa sg ov :: (wS G q ql qh (S)))) := by
  refine ct_of (by decide) (Nat.le_of_ble_eq_true rfl) (own := RX2) (nm := "placed") rfl rfl (lv := [some (.ref x), some (.int (nI a1)), some (.int (nI a2)), some (.int (nI a3)), some (.int (nI a4)), some (.int (nI pp)), none]) rfl ?_
  refine r_aload_n 0 dX2_placed_0 rfl ?_
  refine r_get 1 f_X2_10 dX2_placed_1 0 rfl rfl ?_
  refine r_iload 4 dX2_placed_4 rfl ?_
  refine r_callVD (ws2 := [_, _, _, _]) (wr := [_]) 6 s_X2_76 dX2_placed_6 (c_X1_isPlace) rfl rfl 0 rfl rfl rfl [1, 2, 3] [0] rfl rfl rfl rfl (by decide) jRm_ok (Nat.le_of_ble_eq_true rfl) ⟨(Nat.le_of_ble_eq_true rfl), (Nat.le_of_ble_eq_true rfl)⟩ [0, 1, 2, 3] rfl rfl ?_
  refine r_if_neB 9 14 dX2_placed_9 (by decide) (fun c_9 => ?_) (fun c_9 => ?_)
  · -- 9T
    refine r_aload_n 14 dX2_placed_14 rfl ?_
    refine r_iload_n 15 dX2_placed_15 rfl ?_
    refine r_iload_n 16 dX2_placed_16 rfl ?_
    refine r_iload_n 17 dX2_placed_17 rfl ?_
    refine r_iload 18 dX2_placed_18 rfl ?_
    refine r_callVD (ws2 := [_, _, _, _]) (wr := []) 20 s_X2_174 dX2_placed_20 (h_refF hS ha hP) rfl rfl 0 rfl rfl rfl [0, 1, 2, 3] [] rfl rfl rfl rfl (by decide) jRm_ok (Nat.le_of_ble_eq_true rfl) ⟨(Nat.le_of_ble_eq_true rfl), (Nat.le_of_ble_eq_true rfl)⟩ [0, 1, 2, 3] rfl rfl ?_
    refine r_istore (lv2 := [_, _, _, _, _, _, _]) 23 dX2_placed_23 (by decide) rfl rfl ?_
    refine r_iload 25 dX2_placed_25 rfl ?_
    refine r_if_eqF 27 33 dX2_placed_27 (by decide) (by decide) ?_
    refine r_iload 30 dX2_placed_30 rfl ?_
    exact r_iret 32 dX2_placed_32 rfl rfl (Nat.le_of_ble_eq_true rfl) (Nat.le_of_ble_eq_true rfl) (jd rfl)
  · -- 9F
    exact absurd (plB_of hS hp) c_9
set_option maxRecDepth 100000 in
set_option maxHeartbeats 400000 in
theorem h_placedU {G : jG} {d : Nat} {x q t ai b pa ql qh : Nat} {sg : Int32} {ov : Value} {S : qS} {a1 a2 a3 a4 y : Int32} (h : ¬ plB S y = true) : Ct G yX2_placed cX2_placed 7 (some .int) (d + 26) 0 0 [.ref x, .int a1, .int a2, .int a3, .int a4, .int y] (hX x q t ai b pa sg ov :: (wS G q ql qh (S))) (jD (some (.int (-1))) (hX x q t ai b pa sg ov :: (wS G q ql qh (S)))) := by
  refine ct_of (by decide) (Nat.le_of_ble_eq_true rfl) (own := RX2) (nm := "placed") rfl rfl (lv := [some (.ref x), some (.int a1), some (.int a2), some (.int a3), some (.int a4), some (.int y), none]) rfl ?_
  refine r_aload_n 0 dX2_placed_0 rfl ?_
  refine r_get 1 f_X2_10 dX2_placed_1 0 rfl rfl ?_
  refine r_iload 4 dX2_placed_4 rfl ?_
  refine r_callVD (ws2 := [_, _, _, _]) (wr := [_]) 6 s_X2_76 dX2_placed_6 (c_X1_isPlace) rfl rfl 0 rfl rfl rfl [1, 2, 3] [0] rfl rfl rfl rfl (by decide) jRm_ok (Nat.le_of_ble_eq_true rfl) ⟨(Nat.le_of_ble_eq_true rfl), (Nat.le_of_ble_eq_true rfl)⟩ [0, 1, 2, 3] rfl rfl ?_
  refine r_if_neB 9 14 dX2_placed_9 (by decide) (fun c_9 => ?_) (fun c_9 => ?_)
  · -- 9T
    exact absurd c_9 h
  · -- 9F
    refine r_iconst (v := -1) 12 dX2_placed_12 (by decide) ?_
    exact r_iret 13 dX2_placed_13 rfl rfl (Nat.le_of_ble_eq_true rfl) (Nat.le_of_ble_eq_true rfl) (jd rfl)
