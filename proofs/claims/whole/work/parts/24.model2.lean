def spF (k : Nat) (f : Nat → Int32) (j : Nat) : Int32 := if j < k then -6 else f j
theorem spF_s {f : Nat → Int32} {k : Nat} (j : Nat) : upd (spF k f) k (-6) j = spF (k + 1) f j := by
  unfold upd spF
  split <;> split <;> first | rfl | omega | (rw [if_pos (by omega)]) | (rw [if_neg (by omega)])
set_option maxRecDepth 100000 in
set_option maxHeartbeats 400000 in
theorem lp_spread {G : jG} {d : Nat} {m : Nat} {A : Nat → Nat} {r c k0 o n0 pm se th ka iw : Int32} {fo fa sw : Nat → Int32} {x y : Int32} : ∀ (n : Nat) (k : Nat), 16 + 1 ≤ k + n → k ≤ 16 → Rn G RX3 "spread" cX3_spread 4 none (jR (d + 1) 0 0) jX0 (jE G (jD none (wM G m A r c k0 o n0 pm se th ka iw fo (fun _ => -6) (fun _ => 0))) 0 0) 0 0 12 [some (.ref m), some (.int x), some (.int y), some (.int (nI k))] [] (wM G m A r c k0 o n0 pm se th ka iw fo (spF k fa) (flI sw 0 k)) := by
  intro n
  induction n with
  | zero => intros; omega
  | succ n ih =>
    intro k h1 h2
    refine r_iload_n 12 dX3_spread_12 rfl ?_
    refine r_bipush (v := 16) 13 dX3_spread_13 (by decide) ?_
    refine r_icmp_geN (b := 16) 15 39 dX3_spread_15 (by decide) (by omega) (by decide) (fun c_15 => ?_) (fun c_15 => ?_)
    · -- 15T
      obtain rfl : k = 16 := by omega
      refine r_arrI (f2 := fun _ => -6) (ws2 := [_, _, (_, .inl (_, _, .inl _)), _]) 2 rfl (fun j hj => if_pos hj) rfl ?_
      refine r_arrI (f2 := fun _ => 0) (ws2 := [_, _, _, (_, .inl (_, _, .inl _))]) 3 rfl (fun j hj => if_pos hj) rfl ?_
      exact r_ret 39 dX3_spread_39 rfl (Nat.le_of_ble_eq_true rfl) (Nat.le_of_ble_eq_true rfl) (jdv rfl)
    · -- 15F
      refine r_aload_n 18 dX3_spread_18 rfl ?_
      refine r_get 19 f_X3_13 dX3_spread_19 0 rfl rfl ?_
      refine r_iload_n 22 dX3_spread_22 rfl ?_
      refine r_bipush (v := -6) 23 dX3_spread_23 (by decide) ?_
      refine r_iastore (ws2 := [_, _, (_, .inl (_, _, .inl _)), _]) 25 dX3_spread_25 2 rfl (vp_in_nI (by omega) (by decide)) (nI_clamp (by omega)) rfl ?_
      refine r_arrI (f2 := spF (k + 1) fa) (ws2 := [_, _, (_, .inl (_, _, .inl _)), _]) 2 rfl (fun j _ => spF_s j) rfl ?_
      refine r_aload_n 26 dX3_spread_26 rfl ?_
      refine r_get 27 f_X3_16 dX3_spread_27 0 rfl rfl ?_
      refine r_iload_n 30 dX3_spread_30 rfl ?_
      refine r_iconst (v := 0) 31 dX3_spread_31 (by decide) ?_
      refine r_iastore (ws2 := [_, _, _, (_, .inl (_, _, .inl _))]) 32 dX3_spread_32 3 rfl (vp_in_nI (by omega) (by decide)) (nI_clamp (by omega)) rfl ?_
      refine r_arrI (f2 := flI sw 0 (k + 1)) (ws2 := [_, _, _, (_, .inl (_, _, .inl _))]) 3 rfl (fun j _ => flI_s) rfl ?_
      refine r_iinc (lv2 := [_, _, _, _]) 33 dX3_spread_33 rfl (jinc) (by decide) rfl rfl ?_
      refine r_goto 36 12 dX3_spread_36 (by decide) ?_
      exact ih (k + 1) (by omega) (by omega)
set_option maxRecDepth 100000 in
set_option maxHeartbeats 400000 in
theorem m_spread {G : jG} {d : Nat} {m : Nat} {A : Nat → Nat} {r c k0 o n0 pm se th ka iw : Int32} {fo fa sw : Nat → Int32} {x y : Int32} : Ct G yX3_spread cX3_spread 4 none (d + 1) 0 0 [.ref m, .int x, .int y] (wM G m A r c k0 o n0 pm se th ka iw fo fa sw) (jD none (wM G m A x y k0 o n0 pm se th ka iw fo (fun _ => -6) (fun _ => 0))) := by
  refine ct_of (by decide) (Nat.le_of_ble_eq_true rfl) (own := RX3) (nm := "spread") rfl rfl (lv := [some (.ref m), some (.int x), some (.int y), none]) rfl ?_
  refine r_aload_n 0 dX3_spread_0 rfl ?_
  refine r_iload_n 1 dX3_spread_1 rfl ?_
  refine r_put (ws2 := [(_, .inr (_, [_, _, _, _, _, _, _, _, _, _, _, _, _, _, _, _, _, _, _, _, _, _, _, _])), _, _, _]) 2 p_X3_69 dX3_spread_2 0 rfl rfl rfl (Nat.le_of_ble_eq_true rfl) rfl ?_
  refine r_aload_n 5 dX3_spread_5 rfl ?_
  refine r_iload_n 6 dX3_spread_6 rfl ?_
  refine r_put (ws2 := [(_, .inr (_, [_, _, _, _, _, _, _, _, _, _, _, _, _, _, _, _, _, _, _, _, _, _, _, _])), _, _, _]) 7 p_X3_72 dX3_spread_7 0 rfl rfl rfl (Nat.le_of_ble_eq_true rfl) rfl ?_
  refine r_iconst (v := 0) 10 dX3_spread_10 (by decide) ?_
  refine r_ti (y := nI 0) (nI_0.symm) ?_
  refine r_istore_n (lv2 := [_, _, _, _]) 11 dX3_spread_11 (by decide) rfl rfl ?_
  refine r_arrI (f2 := spF 0 fa) (ws2 := [_, _, (_, .inl (_, _, .inl _)), _]) 2 rfl (fun j _ => (if_neg (by omega)).symm) rfl ?_
  refine r_arrI (f2 := flI sw 0 0) (ws2 := [_, _, _, (_, .inl (_, _, .inl _))]) 3 rfl (fun j _ => (if_neg (by omega)).symm) rfl ?_
  exact lp_spread 17 0 (by omega) (by omega)
set_option maxRecDepth 100000 in
set_option maxHeartbeats 400000 in
theorem m_quilt1 {G : jG} {d : Nat} {m : Nat} {A : Nat → Nat} {S : qS} {pm se th ka iw : Int32} {R C : Nat} (hR : 1 ≤ R ∧ R ≤ 4) (hC : 1 ≤ C ∧ C ≤ 4) : Ct G yX3_quilt cX3_quilt 3 (some .int) (d + 2) 0 0 [.ref m, .int (nI R), .int (nI C)] (wX G m A S pm se th ka iw) (jD (some (.int (nI (R * C)))) (wX G m A (quS S R C) pm se th ka iw)) := by
  refine ct_of (by decide) (Nat.le_of_ble_eq_true rfl) (own := RX3) (nm := "quilt") rfl rfl (lv := [some (.ref m), some (.int (nI R)), some (.int (nI C))]) rfl ?_
  refine r_iload_n 0 dX3_quilt_0 rfl ?_
  refine r_i2l 1 dX3_quilt_1 ?_
  refine r_lconst (v := 1) 2 dX3_quilt_2 (by decide) ?_
  refine r_ldc2 3 q_X3_85 dX3_quilt_3 ?_
  refine r_sta (st2 := [.long (4 : Int32).toInt64, .long (1 : Int32).toInt64, .long (nI R).toInt64]) rfl ?_
  refine r_callSD (ws2 := [_, _, _, _]) (wr := [_, _, _, _]) 6 s_X3_79 dX3_quilt_6 (m_in) rfl rfl [] [0, 1, 2, 3] rfl rfl rfl rfl (by decide) jRm_ok (Nat.le_of_ble_eq_true rfl) ⟨(Nat.le_of_ble_eq_true rfl), (Nat.le_of_ble_eq_true rfl)⟩ [0, 1, 2, 3] rfl rfl ?_
  refine r_if_eqB 9 24 dX3_quilt_9 (by decide) (fun c_9 => ?_) (fun c_9 => ?_)
  · -- 9T
    exact absurd ⟨nI_le (a := 1) hR.1 (by omega), nI_le (b := 4) hR.2 (by decide)⟩ c_9
  · -- 9F
    refine r_iload_n 12 dX3_quilt_12 rfl ?_
    refine r_i2l 13 dX3_quilt_13 ?_
    refine r_lconst (v := 1) 14 dX3_quilt_14 (by decide) ?_
    refine r_ldc2 15 q_X3_85 dX3_quilt_15 ?_
    refine r_sta (st2 := [.long (4 : Int32).toInt64, .long (1 : Int32).toInt64, .long (nI C).toInt64]) rfl ?_
    refine r_callSD (ws2 := [_, _, _, _]) (wr := [_, _, _, _]) 18 s_X3_79 dX3_quilt_18 (m_in) rfl rfl [] [0, 1, 2, 3] rfl rfl rfl rfl (by decide) jRm_ok (Nat.le_of_ble_eq_true rfl) ⟨(Nat.le_of_ble_eq_true rfl), (Nat.le_of_ble_eq_true rfl)⟩ [0, 1, 2, 3] rfl rfl ?_
    refine r_if_neB 21 27 dX3_quilt_21 (by decide) (fun c_21 => ?_) (fun c_21 => ?_)
    · -- 21T
      refine r_aload_n 27 dX3_quilt_27 rfl ?_
      refine r_iload_n 28 dX3_quilt_28 rfl ?_
      refine r_iload_n 29 dX3_quilt_29 rfl ?_
      refine r_callVD (ws2 := [_, _, _, _]) (wr := []) 30 s_X3_65 dX3_quilt_30 (m_spread) rfl rfl 0 rfl rfl rfl [0, 1, 2, 3] [] rfl rfl rfl rfl (by decide) jRm_ok (Nat.le_of_ble_eq_true rfl) ⟨(Nat.le_of_ble_eq_true rfl), (Nat.le_of_ble_eq_true rfl)⟩ [0, 1, 2, 3] rfl rfl ?_
      refine r_ws (ws2 := (wX G m A (quS S R C) pm se th ka iw)) ?_ ?_
      · have e : mI (fun _ => false) = 0 := mI_0
        show _ = wM G m A _ _ _ _ _ pm se th ka iw _ _ (fun _ => mI (fun _ => false))
        rw [e]
        rfl
      refine r_aload_n 33 dX3_quilt_33 rfl ?_
      refine r_callVD (ws2 := [_, _, _, _]) (wr := []) 34 s_X3_75 dX3_quilt_34 (m_places) rfl rfl 0 rfl rfl rfl [0, 1, 2, 3] [] rfl rfl rfl rfl (by decide) jRm_ok (Nat.le_of_ble_eq_true rfl) ⟨(Nat.le_of_ble_eq_true rfl), (Nat.le_of_ble_eq_true rfl)⟩ [0, 1, 2, 3] rfl rfl ?_
      exact r_iret 37 dX3_quilt_37 rfl rfl (Nat.le_of_ble_eq_true rfl) (Nat.le_of_ble_eq_true rfl) (jd rfl)
    · -- 21F
      exact absurd ⟨nI_le (a := 1) hC.1 (by omega), nI_le (b := 4) hC.2 (by decide)⟩ c_21
set_option maxRecDepth 100000 in
set_option maxHeartbeats 400000 in
theorem m_quilt0 {G : jG} {d : Nat} {m : Nat} {A : Nat → Nat} {S : qS} {pm se th ka iw : Int32} {x y : Int32} (h : ¬ ((1 ≤ x ∧ x ≤ 4) ∧ (1 ≤ y ∧ y ≤ 4))) : Ct G yX3_quilt cX3_quilt 3 (some .int) (d + 2) 0 0 [.ref m, .int x, .int y] (wX G m A S pm se th ka iw) (jD (some (.int (-2))) (wX G m A S pm se th ka iw)) := by
  refine ct_of (by decide) (Nat.le_of_ble_eq_true rfl) (own := RX3) (nm := "quilt") rfl rfl (lv := [some (.ref m), some (.int x), some (.int y)]) rfl ?_
  refine r_iload_n 0 dX3_quilt_0 rfl ?_
  refine r_i2l 1 dX3_quilt_1 ?_
  refine r_lconst (v := 1) 2 dX3_quilt_2 (by decide) ?_
  refine r_ldc2 3 q_X3_85 dX3_quilt_3 ?_
  refine r_sta (st2 := [.long (4 : Int32).toInt64, .long (1 : Int32).toInt64, .long (x).toInt64]) rfl ?_
  refine r_callSD (ws2 := [_, _, _, _]) (wr := [_, _, _, _]) 6 s_X3_79 dX3_quilt_6 (m_in) rfl rfl [] [0, 1, 2, 3] rfl rfl rfl rfl (by decide) jRm_ok (Nat.le_of_ble_eq_true rfl) ⟨(Nat.le_of_ble_eq_true rfl), (Nat.le_of_ble_eq_true rfl)⟩ [0, 1, 2, 3] rfl rfl ?_
  refine r_if_eqB 9 24 dX3_quilt_9 (by decide) (fun c_9 => ?_) (fun c_9 => ?_)
  · -- 9T
    refine r_bipush (v := -2) 24 dX3_quilt_24 (by decide) ?_
    exact r_iret 26 dX3_quilt_26 rfl rfl (Nat.le_of_ble_eq_true rfl) (Nat.le_of_ble_eq_true rfl) (jd rfl)
  · -- 9F
    refine r_iload_n 12 dX3_quilt_12 rfl ?_
    refine r_i2l 13 dX3_quilt_13 ?_
    refine r_lconst (v := 1) 14 dX3_quilt_14 (by decide) ?_
    refine r_ldc2 15 q_X3_85 dX3_quilt_15 ?_
    refine r_sta (st2 := [.long (4 : Int32).toInt64, .long (1 : Int32).toInt64, .long (y).toInt64]) rfl ?_
    refine r_callSD (ws2 := [_, _, _, _]) (wr := [_, _, _, _]) 18 s_X3_79 dX3_quilt_18 (m_in) rfl rfl [] [0, 1, 2, 3] rfl rfl rfl rfl (by decide) jRm_ok (Nat.le_of_ble_eq_true rfl) ⟨(Nat.le_of_ble_eq_true rfl), (Nat.le_of_ble_eq_true rfl)⟩ [0, 1, 2, 3] rfl rfl ?_
    refine r_if_neB 21 27 dX3_quilt_21 (by decide) (fun c_21 => ?_) (fun c_21 => ?_)
    · -- 21T
      exact absurd ⟨c_9, c_21⟩ h
    · -- 21F
      refine r_bipush (v := -2) 24 dX3_quilt_24 (by decide) ?_
      exact r_iret 26 dX3_quilt_26 rfl rfl (Nat.le_of_ble_eq_true rfl) (Nat.le_of_ble_eq_true rfl) (jd rfl)
set_option maxRecDepth 100000 in
set_option maxHeartbeats 400000 in
theorem m_say1 {G : jG} {d : Nat} {m : Nat} {A : Nat → Nat} {S : qS} {se th ka iw : Int32} {k : Nat} {pd : Nat → Nat} {x : Nat} (hk : k < 40) (hx : 33 ≤ x ∧ x ≤ 126) : Ct G yX3_say cX3_say 2 (some .int) (d + 2) 0 0 [.ref m, .int (nI x)] ((wX G m A (S) (nI k) se th ka iw) ++ [(A 3, .inl (G.2.2.1, 40, .inl (fun i => nI (pd i))))]) (jD (some (.int (nI (k + 1)))) ((wX G m A (S) (nI (k + 1)) se th ka iw) ++ [(A 3, .inl (G.2.2.1, 40, .inl (fun i => nI (upN pd k x i))))])) := by
  refine ct_of (by decide) (Nat.le_of_ble_eq_true rfl) (own := RX3) (nm := "say") rfl rfl (lv := [some (.ref m), some (.int (nI x))]) rfl ?_
  refine r_iload_n 0 dX3_say_0 rfl ?_
  refine r_i2l 1 dX3_say_1 ?_
  refine r_ldc2 2 q_X3_87 dX3_say_2 ?_
  refine r_ldc2 5 q_X3_89 dX3_say_5 ?_
  refine r_sta (st2 := [.long (126 : Int32).toInt64, .long (33 : Int32).toInt64, .long (nI x).toInt64]) rfl ?_
  refine r_callSD (ws2 := [_, _, _, _, _]) (wr := [_, _, _, _, _]) 8 s_X3_79 dX3_say_8 (m_in) rfl rfl [] [0, 1, 2, 3, 4] rfl rfl rfl rfl (by decide) jRm_ok (Nat.le_of_ble_eq_true rfl) ⟨(Nat.le_of_ble_eq_true rfl), (Nat.le_of_ble_eq_true rfl)⟩ [0, 1, 2, 3, 4] rfl rfl ?_
  refine r_if_neB 11 17 dX3_say_11 (by decide) (fun c_11 => ?_) (fun c_11 => ?_)
  · -- 11T
    refine r_aload_n 17 dX3_say_17 rfl ?_
    refine r_get 18 f_X3_91 dX3_say_18 0 rfl rfl ?_
    refine r_bipush (v := 40) 21 dX3_say_21 (by decide) ?_
    refine r_icmp_neN (b := 40) 23 29 dX3_say_23 (by decide) (by omega) (by decide) (fun c_23 => ?_) (fun c_23 => ?_)
    · -- 23T
      refine r_aload_n 29 dX3_say_29 rfl ?_
      refine r_get 30 f_X3_19 dX3_say_30 0 rfl rfl ?_
      refine r_aload_n 33 dX3_say_33 rfl ?_
      refine r_get 34 f_X3_91 dX3_say_34 0 rfl rfl ?_
      refine r_iload_n 37 dX3_say_37 rfl ?_
      refine r_iastore (ws2 := [_, _, _, _, (_, .inl (_, _, .inl _))]) 38 dX3_say_38 4 rfl (vp_in_nI hk (by decide)) (nI_clamp (by omega)) rfl ?_
      refine r_arrI (f2 := fun i => nI (upN pd k x i)) (ws2 := [_, _, _, _, (_, .inl (_, _, .inl _))]) 4 rfl (fun j _ => by unfold upd upN; split <;> rfl) rfl ?_
      refine r_aload_n 39 dX3_say_39 rfl ?_
      refine r_dup 40 dX3_say_40 rfl ?_
      refine r_get 41 f_X3_91 dX3_say_41 0 rfl rfl ?_
      refine r_iconst (v := 1) 44 dX3_say_44 (by decide) ?_
      refine r_iadd 45 dX3_say_45 ?_
      refine r_ti (y := nI (k + 1)) (nI_1 _) ?_
      refine r_put (ws2 := [(_, .inr (_, [_, _, _, _, _, _, _, _, _, _, _, _, _, _, _, _, _, _, _, _, _, _, _, _])), _, _, _, _]) 46 p_X3_91 dX3_say_46 0 rfl rfl rfl (Nat.le_of_ble_eq_true rfl) rfl ?_
      refine r_aload_n 49 dX3_say_49 rfl ?_
      refine r_get 50 f_X3_91 dX3_say_50 0 rfl rfl ?_
      exact r_iret 53 dX3_say_53 rfl rfl (Nat.le_of_ble_eq_true rfl) (Nat.le_of_ble_eq_true rfl) (jd rfl)
    · -- 23F
      exact absurd c_23 (by omega)
  · -- 11F
    exact absurd ⟨nI_le (a := 33) hx.1 (by omega), nI_le (b := 126) hx.2 (by decide)⟩ c_11
set_option maxRecDepth 100000 in
set_option maxHeartbeats 400000 in
theorem m_say0 {G : jG} {d : Nat} {m : Nat} {A : Nat → Nat} {S : qS} {se th ka iw : Int32} {k : Nat} {pd : Nat → Int32} {x : Int32} (hx : ¬ (33 ≤ x ∧ x ≤ 126)) : Ct G yX3_say cX3_say 2 (some .int) (d + 2) 0 0 [.ref m, .int x] ((wX G m A (S) (nI k) se th ka iw) ++ [(A 3, .inl (G.2.2.1, 40, .inl (pd)))]) (jD (some (.int (-2))) ((wX G m A (S) (nI k) se th ka iw) ++ [(A 3, .inl (G.2.2.1, 40, .inl (pd)))])) := by
  refine ct_of (by decide) (Nat.le_of_ble_eq_true rfl) (own := RX3) (nm := "say") rfl rfl (lv := [some (.ref m), some (.int x)]) rfl ?_
  refine r_iload_n 0 dX3_say_0 rfl ?_
  refine r_i2l 1 dX3_say_1 ?_
  refine r_ldc2 2 q_X3_87 dX3_say_2 ?_
  refine r_ldc2 5 q_X3_89 dX3_say_5 ?_
  refine r_sta (st2 := [.long (126 : Int32).toInt64, .long (33 : Int32).toInt64, .long (x).toInt64]) rfl ?_
  refine r_callSD (ws2 := [_, _, _, _, _]) (wr := [_, _, _, _, _]) 8 s_X3_79 dX3_say_8 (m_in) rfl rfl [] [0, 1, 2, 3, 4] rfl rfl rfl rfl (by decide) jRm_ok (Nat.le_of_ble_eq_true rfl) ⟨(Nat.le_of_ble_eq_true rfl), (Nat.le_of_ble_eq_true rfl)⟩ [0, 1, 2, 3, 4] rfl rfl ?_
  refine r_if_neB 11 17 dX3_say_11 (by decide) (fun c_11 => ?_) (fun c_11 => ?_)
  · -- 11T
    exact absurd c_11 hx
  · -- 11F
    refine r_bipush (v := -2) 14 dX3_say_14 (by decide) ?_
    exact r_iret 16 dX3_say_16 rfl rfl (Nat.le_of_ble_eq_true rfl) (Nat.le_of_ble_eq_true rfl) (jd rfl)
set_option maxRecDepth 100000 in
set_option maxHeartbeats 400000 in
theorem m_say4 {G : jG} {d : Nat} {m : Nat} {A : Nat → Nat} {S : qS} {se th ka iw : Int32} {k : Nat} {pd : Nat → Int32} {x : Int32} (hx : 33 ≤ x ∧ x ≤ 126) (hk : k = 40) : Ct G yX3_say cX3_say 2 (some .int) (d + 2) 0 0 [.ref m, .int x] ((wX G m A (S) (nI k) se th ka iw) ++ [(A 3, .inl (G.2.2.1, 40, .inl (pd)))]) (jD (some (.int (-4))) ((wX G m A (S) (nI k) se th ka iw) ++ [(A 3, .inl (G.2.2.1, 40, .inl (pd)))])) := by
  refine ct_of (by decide) (Nat.le_of_ble_eq_true rfl) (own := RX3) (nm := "say") rfl rfl (lv := [some (.ref m), some (.int x)]) rfl ?_
  refine r_iload_n 0 dX3_say_0 rfl ?_
  refine r_i2l 1 dX3_say_1 ?_
  refine r_ldc2 2 q_X3_87 dX3_say_2 ?_
  refine r_ldc2 5 q_X3_89 dX3_say_5 ?_
  refine r_sta (st2 := [.long (126 : Int32).toInt64, .long (33 : Int32).toInt64, .long (x).toInt64]) rfl ?_
  refine r_callSD (ws2 := [_, _, _, _, _]) (wr := [_, _, _, _, _]) 8 s_X3_79 dX3_say_8 (m_in) rfl rfl [] [0, 1, 2, 3, 4] rfl rfl rfl rfl (by decide) jRm_ok (Nat.le_of_ble_eq_true rfl) ⟨(Nat.le_of_ble_eq_true rfl), (Nat.le_of_ble_eq_true rfl)⟩ [0, 1, 2, 3, 4] rfl rfl ?_
  refine r_if_neB 11 17 dX3_say_11 (by decide) (fun c_11 => ?_) (fun c_11 => ?_)
  · -- 11T
    refine r_aload_n 17 dX3_say_17 rfl ?_
    refine r_get 18 f_X3_91 dX3_say_18 0 rfl rfl ?_
    refine r_bipush (v := 40) 21 dX3_say_21 (by decide) ?_
    refine r_icmp_neN (b := 40) 23 29 dX3_say_23 (by decide) (by omega) (by decide) (fun c_23 => ?_) (fun c_23 => ?_)
    · -- 23T
      exact absurd hk c_23
    · -- 23F
      refine r_bipush (v := -4) 26 dX3_say_26 (by decide) ?_
      exact r_iret 28 dX3_say_28 rfl rfl (Nat.le_of_ble_eq_true rfl) (Nat.le_of_ble_eq_true rfl) (jd rfl)
  · -- 11F
    exact absurd hx c_11
set_option maxRecDepth 100000 in
set_option maxHeartbeats 400000 in
theorem m_wipe {G : jG} {d : Nat} {m : Nat} {A : Nat → Nat} {S : qS} {se th ka iw : Int32} {k : Nat} : Ct G yX3_wipe cX3_wipe 2 (some .int) (d + 1) 0 0 [.ref m] (wX G m A (S) (nI k) se th ka iw) (jD (some (.int (nI k))) (wX G m A (S) (nI 0) se th ka iw)) := by
  refine ct_of (by decide) (Nat.le_of_ble_eq_true rfl) (own := RX3) (nm := "wipe") rfl rfl (lv := [some (.ref m), none]) rfl ?_
  refine r_aload_n 0 dX3_wipe_0 rfl ?_
  refine r_get 1 f_X3_91 dX3_wipe_1 0 rfl rfl ?_
  refine r_istore_n (lv2 := [_, _]) 4 dX3_wipe_4 (by decide) rfl rfl ?_
  refine r_aload_n 5 dX3_wipe_5 rfl ?_
  refine r_iconst (v := 0) 6 dX3_wipe_6 (by decide) ?_
  refine r_ti (y := nI 0) (nI_0.symm) ?_
  refine r_put (ws2 := [(_, .inr (_, [_, _, _, _, _, _, _, _, _, _, _, _, _, _, _, _, _, _, _, _, _, _, _, _])), _, _, _]) 7 p_X3_91 dX3_wipe_7 0 rfl rfl rfl (Nat.le_of_ble_eq_true rfl) rfl ?_
  refine r_iload_n 10 dX3_wipe_10 rfl ?_
  exact r_iret 11 dX3_wipe_11 rfl rfl (Nat.le_of_ble_eq_true rfl) (Nat.le_of_ble_eq_true rfl) (jd rfl)
theorem can_m {x : Nat} (h1 : x ≤ 126) : ¬ nI x = nI 46 → ((nI 97 ≤ nI x ∧ nI x ≤ nI 100) ↔ canD x = true) := by
  intro h
  have h2 : x ≠ 46 := fun z => h (by rw [z])
  rw [nI_leI (by decide) (by omega), nI_leI (by omega) (by decide)]
  unfold canD
  simp only [Bool.or_eq_true, Bool.and_eq_true, decide_eq_true_eq]
  omega
set_option maxRecDepth 100000 in
set_option maxHeartbeats 400000 in
theorem lp_mfault {G : jG} {d : Nat} {m : Nat} {A : Nat → Nat} {S : qS} {se th ka iw : Int32} {k : Nat} (hS : wf S) {pd : Nat → Nat} (hw : wp pd k) {z : Int32} : ∀ (n : Nat) (i : Nat), k + 1 ≤ i + n → i ≤ k → i ≤ sP S → ftR (sP S) k pd n i = z → Rn G RX3 "fault" cX3_fault 2 (some .int) (jR (d + 2) 0 0) jX0 (jE G (jD (some (.int z)) ((wX G m A (S) (nI k) se th ka iw) ++ [(A 3, .inl (G.2.2.1, 40, .inl (fun i => nI (pd i))))])) 0 0) 0 0 2 [some (.ref m), some (.int (nI i))] [] ((wX G m A (S) (nI k) se th ka iw) ++ [(A 3, .inl (G.2.2.1, 40, .inl (fun i => nI (pd i))))]) := by
  intro n
  induction n with
  | zero => intros; omega
  | succ n ih =>
    intro i h1 h2 h3 hr
    have h16 := hS.p16
    have hk40 := hw.1
    refine r_iload_n 2 dX3_fault_2 rfl ?_
    refine r_aload_n 3 dX3_fault_3 rfl ?_
    refine r_get 4 f_X3_91 dX3_fault_4 0 rfl rfl ?_
    refine r_icmp_geN 7 56 dX3_fault_7 (by decide) (by omega) (by omega) (fun c_7 => ?_) (fun c_7 => ?_)
    · -- 7T
      have e : ftR (sP S) k pd (n + 1) i = if k < sP S then nI k else -6 := if_neg (by omega)
      rw [e] at hr
      refine r_aload_n 56 dX3_fault_56 rfl ?_
      refine r_get 57 f_X3_91 dX3_fault_57 0 rfl rfl ?_
      refine r_aload_n 60 dX3_fault_60 rfl ?_
      refine r_callVD (ws2 := [_, _, _, _, _]) (wr := [_]) 61 s_X3_75 dX3_fault_61 (m_places) rfl rfl 0 rfl rfl rfl [0, 1, 2, 3] [4] rfl rfl rfl rfl (by decide) jRm_ok (Nat.le_of_ble_eq_true rfl) ⟨(Nat.le_of_ble_eq_true rfl), (Nat.le_of_ble_eq_true rfl)⟩ [1, 2, 3, 4, 0] rfl rfl ?_
      refine r_icmp_geN 64 74 dX3_fault_64 (by decide) (by omega) (by omega) (fun c_64 => ?_) (fun c_64 => ?_)
      · -- 64T
        refine r_bipush (v := -6) 74 dX3_fault_74 (by decide) ?_
        exact r_iret 76 dX3_fault_76 rfl rfl (Nat.le_of_ble_eq_true rfl) (Nat.le_of_ble_eq_true rfl) (jd (by first | (rw [if_neg (by omega)] at hr; exact hr) | (rw [if_pos (by omega)] at hr; exact hr)))
      · -- 64F
        refine r_aload_n 67 dX3_fault_67 rfl ?_
        refine r_get 68 f_X3_91 dX3_fault_68 0 rfl rfl ?_
        refine r_goto 71 76 dX3_fault_71 (by decide) ?_
        exact r_iret 76 dX3_fault_76 rfl rfl (Nat.le_of_ble_eq_true rfl) (Nat.le_of_ble_eq_true rfl) (jd (by first | (rw [if_neg (by omega)] at hr; exact hr) | (rw [if_pos (by omega)] at hr; exact hr)))
    · -- 7F
      have hb := hw.2 i c_7
      refine r_iload_n 10 dX3_fault_10 rfl ?_
      refine r_aload_n 11 dX3_fault_11 rfl ?_
      refine r_callVD (ws2 := [_, _, _, _, _]) (wr := [_]) 12 s_X3_75 dX3_fault_12 (m_places) rfl rfl 0 rfl rfl rfl [0, 1, 2, 3] [4] rfl rfl rfl rfl (by decide) jRm_ok (Nat.le_of_ble_eq_true rfl) ⟨(Nat.le_of_ble_eq_true rfl), (Nat.le_of_ble_eq_true rfl)⟩ [1, 2, 3, 4, 0] rfl rfl ?_
      refine r_icmp_eqN 15 48 dX3_fault_15 (by decide) (by omega) (by omega) (fun c_15 => ?_) (fun c_15 => ?_)
      · -- 15T
        have e : ftR (sP S) k pd (n + 1) i = nI i := (if_pos c_7).trans (if_pos (by omega))
        rw [e] at hr
        refine r_iload_n 48 dX3_fault_48 rfl ?_
        exact r_iret 49 dX3_fault_49 rfl rfl (Nat.le_of_ble_eq_true rfl) (Nat.le_of_ble_eq_true rfl) (jd hr)
      · -- 15F
        refine r_aload_n 18 dX3_fault_18 rfl ?_
        refine r_get 19 f_X3_19 dX3_fault_19 0 rfl rfl ?_
        refine r_iload_n 22 dX3_fault_22 rfl ?_
        refine r_iaload 23 dX3_fault_23 4 rfl (vp_in_nI (by omega) (by decide)) (nI_clamp (by omega)) ?_
        refine r_bipush (v := 46) 24 dX3_fault_24 (by decide) ?_
        refine r_icmp_eqN (b := 46) 26 50 dX3_fault_26 (by decide) (by omega) (by decide) (fun c_26 => ?_) (fun c_26 => ?_)
        · -- 26T
          refine r_iinc (lv2 := [_, _]) 50 dX3_fault_50 rfl (jinc) (by decide) rfl rfl ?_
          refine r_goto 53 2 dX3_fault_53 (by decide) ?_
          have hcan : canD (pd i) = true := by
            first
            | exact (can_m hb.2 (fun y => c_26 ((nI_eq (by omega) (by decide)).mp y))).mp c_45
            | (rw [c_26]; rfl)
          have e : ftR (sP S) k pd (n + 1) i = ftR (sP S) k pd n (i + 1) := (if_pos c_7).trans ((if_neg (by omega)).trans (if_pos hcan))
          rw [e] at hr
          exact ih (i + 1) (by omega) (by omega) (by omega) hr
        · -- 26F
          refine r_aload_n 29 dX3_fault_29 rfl ?_
          refine r_get 30 f_X3_19 dX3_fault_30 0 rfl rfl ?_
          refine r_iload_n 33 dX3_fault_33 rfl ?_
          refine r_iaload 34 dX3_fault_34 4 rfl (vp_in_nI (by omega) (by decide)) (nI_clamp (by omega)) ?_
          refine r_i2l 35 dX3_fault_35 ?_
          refine r_ldc2 36 q_X3_94 dX3_fault_36 ?_
          refine r_ldc2 39 q_X3_96 dX3_fault_39 ?_
          refine r_sta (st2 := [.long (nI 100).toInt64, .long (nI 97).toInt64, .long (nI (pd i)).toInt64, ]) rfl ?_
          refine r_callSD (ws2 := [_, _, _, _, _]) (wr := [_, _, _, _, _]) 42 s_X3_79 dX3_fault_42 (m_in) rfl rfl [] [0, 1, 2, 3, 4] rfl rfl rfl rfl (by decide) jRm_ok (Nat.le_of_ble_eq_true rfl) ⟨(Nat.le_of_ble_eq_true rfl), (Nat.le_of_ble_eq_true rfl)⟩ [0, 1, 2, 3, 4] rfl rfl ?_
          refine r_if_neB 45 50 dX3_fault_45 (by decide) (fun c_45 => ?_) (fun c_45 => ?_)
          · -- 45T
            refine r_iinc (lv2 := [_, _]) 50 dX3_fault_50 rfl (jinc) (by decide) rfl rfl ?_
            refine r_goto 53 2 dX3_fault_53 (by decide) ?_
            have hcan : canD (pd i) = true := by
              first
              | exact (can_m hb.2 (fun y => c_26 ((nI_eq (by omega) (by decide)).mp y))).mp c_45
              | (rw [c_26]; rfl)
            have e : ftR (sP S) k pd (n + 1) i = ftR (sP S) k pd n (i + 1) := (if_pos c_7).trans ((if_neg (by omega)).trans (if_pos hcan))
            rw [e] at hr
            exact ih (i + 1) (by omega) (by omega) (by omega) hr
          · -- 45F
            have hcan : ¬ canD (pd i) = true := fun q => c_45 ((can_m hb.2 (fun y => c_26 ((nI_eq (by omega) (by decide)).mp y))).mpr q)
            have e : ftR (sP S) k pd (n + 1) i = nI i := (if_pos c_7).trans ((if_neg (by omega)).trans (if_neg hcan))
            rw [e] at hr
            refine r_iload_n 48 dX3_fault_48 rfl ?_
            exact r_iret 49 dX3_fault_49 rfl rfl (Nat.le_of_ble_eq_true rfl) (Nat.le_of_ble_eq_true rfl) (jd hr)
set_option maxRecDepth 100000 in
set_option maxHeartbeats 400000 in
theorem m_fault {G : jG} {d : Nat} {m : Nat} {A : Nat → Nat} {S : qS} {se th ka iw : Int32} {k : Nat} (hS : wf S) {pd : Nat → Nat} (hw : wp pd k) : Ct G yX3_fault cX3_fault 2 (some .int) (d + 2) 0 0 [.ref m] ((wX G m A (S) (nI k) se th ka iw) ++ [(A 3, .inl (G.2.2.1, 40, .inl (fun i => nI (pd i))))]) (jD (some (.int (ftR (sP S) k pd (k + 1) 0))) ((wX G m A (S) (nI k) se th ka iw) ++ [(A 3, .inl (G.2.2.1, 40, .inl (fun i => nI (pd i))))])) := by
  refine ct_of (by decide) (Nat.le_of_ble_eq_true rfl) (own := RX3) (nm := "fault") rfl rfl (lv := [some (.ref m), none]) rfl ?_
  refine r_iconst (v := 0) 0 dX3_fault_0 (by decide) ?_
  refine r_ti (y := nI 0) (nI_0.symm) ?_
  refine r_istore_n (lv2 := [_, _]) 1 dX3_fault_1 (by decide) rfl rfl ?_
  exact lp_mfault hS hw (k + 1) 0 (by omega) (by omega) (by omega) rfl
