abbrev hX (x q t ai b pa : Nat) (sg : Int32) (ov : Value) : Nat × va_E := (x, .inr (2, [.ref q, .ref t, .ref ai, .ref b, .ref pa, .int sg, ov]))
theorem c_isW {G : jG} {d : Nat} {v a b : Int32} (h : a ≤ v ∧ v ≤ b) : Ct G yX2_isWithin cX2_isWithin 3 (some .boolean) (d + 1) 0 0 [.int v, .int a, .int b] [] (jD (some (.int 1)) []) := by
  have h2 := @c_X2_isWithin G d v a b
  rwa [bP_t h] at h2
theorem c_isW0 {G : jG} {d : Nat} {v a b : Int32} (h : ¬ (a ≤ v ∧ v ≤ b)) : Ct G yX2_isWithin cX2_isWithin 3 (some .boolean) (d + 1) 0 0 [.int v, .int a, .int b] [] (jD (some (.int 0)) []) := by
  have h2 := @c_X2_isWithin G d v a b
  rwa [bP_f h] at h2
theorem qu_ly {S : qS} {R C : Nat} (j : Nat) (hj : j < 4) : (0 : Int32) = mI (lyB (quS S R C) j) := by
  rw [eq_comm, mI_eq0]
  intro i _
  exact decide_eq_false (show ¬ 4 = j by omega)
theorem qu_rt {S : qS} {R C : Nat} : mI (rtB (quS S R C)) = 0 := mI_0
theorem qu_dn {S : qS} {R C : Nat} : mI (dnB (quS S R C)) = 0 := mI_0
theorem lay_ly (j : Nat) (hj : j < 4) : (0 : Int32) = lyA (fun _ => 4) j := by
  rw [eq_comm]
  exact mI_eq0.mpr (fun i _ => decide_eq_false (show ¬ 4 = j by omega))
theorem chr_ok : ∀ x, x < 127 → ((nI x).toUInt32 % 65536).toInt32 = nI x ∧ vp_nar .char (nI x) = nI x := by decide +kernel
set_option maxRecDepth 100000 in
set_option maxHeartbeats 400000 in
theorem h_quilt1 {G : jG} {d : Nat} {x q t ai b pa ql qh : Nat} {sg : Int32} {ov : Value} {S : qS} {R C : Nat} (hR : 1 ≤ R ∧ R ≤ 4) (hC : 1 ≤ C ∧ C ≤ 4) : Ct G yX2_quilt cX2_quilt 3 (some .int) (d + 4) 0 0 [.ref x, .int (nI R), .int (nI C)] (hX x q t ai b pa sg ov :: (wS G q ql qh (S))) (jD (some (.int (nI (R * C)))) (hX x q t ai b pa sg ov :: (wS G q ql qh (quS S R C)))) := by
  refine ct_of (by decide) (Nat.le_of_ble_eq_true rfl) (own := RX2) (nm := "quilt") rfl rfl (lv := [some (.ref x), some (.int (nI R)), some (.int (nI C))]) rfl ?_
  refine r_iload_n 0 dX2_quilt_0 rfl ?_
  refine r_iconst (v := 1) 1 dX2_quilt_1 (by decide) ?_
  refine r_iconst (v := 4) 2 dX2_quilt_2 (by decide) ?_
  refine r_callSD (ws2 := [_, _, _, _]) (wr := [_, _, _, _]) 3 s_X2_46 dX2_quilt_3 (c_isW (a := 1) (b := 4) ⟨nI_le (a := 1) hR.1 (by omega), nI_le (b := 4) hR.2 (by decide)⟩) rfl rfl [] [0, 1, 2, 3] rfl rfl rfl rfl (by decide) jRm_ok (Nat.le_of_ble_eq_true rfl) ⟨(Nat.le_of_ble_eq_true rfl), (Nat.le_of_ble_eq_true rfl)⟩ [0, 1, 2, 3] rfl rfl ?_
  refine r_if_eqF 6 18 dX2_quilt_6 (by decide) (by decide) ?_
  refine r_iload_n 9 dX2_quilt_9 rfl ?_
  refine r_iconst (v := 1) 10 dX2_quilt_10 (by decide) ?_
  refine r_iconst (v := 4) 11 dX2_quilt_11 (by decide) ?_
  refine r_callSD (ws2 := [_, _, _, _]) (wr := [_, _, _, _]) 12 s_X2_46 dX2_quilt_12 (c_isW (a := 1) (b := 4) ⟨nI_le (a := 1) hC.1 (by omega), nI_le (b := 4) hC.2 (by decide)⟩) rfl rfl [] [0, 1, 2, 3] rfl rfl rfl rfl (by decide) jRm_ok (Nat.le_of_ble_eq_true rfl) ⟨(Nat.le_of_ble_eq_true rfl), (Nat.le_of_ble_eq_true rfl)⟩ [0, 1, 2, 3] rfl rfl ?_
  refine r_if_neT 15 21 dX2_quilt_15 (by decide) (by decide) ?_
  refine r_aload_n 21 dX2_quilt_21 rfl ?_
  refine r_get 22 f_X2_10 dX2_quilt_22 0 rfl rfl ?_
  refine r_iload_n 25 dX2_quilt_25 rfl ?_
  refine r_iload_n 26 dX2_quilt_26 rfl ?_
  refine r_callVD (ws2 := [_, _, _, _]) (wr := [_]) 27 s_X2_42 dX2_quilt_27 (q_measure hR hC) rfl rfl 0 rfl rfl rfl [1, 2, 3] [0] rfl rfl rfl rfl (by decide) jRm_ok (Nat.le_of_ble_eq_true rfl) ⟨(Nat.le_of_ble_eq_true rfl), (Nat.le_of_ble_eq_true rfl)⟩ [0, 1, 2, 3] rfl rfl ?_
  refine r_arrI (f2 := fun f => mI (lyB (quS S R C) f)) (ws2 := [_, _, (_, .inl (_, _, .inl _)), _]) 2 rfl qu_ly rfl ?_
  refine r_ws (ws2 := (hX x q t ai b pa sg ov :: (wS G q ql qh (quS S R C)))) (by
    show _ = hX x q t ai b pa sg ov :: wQ G q ql qh _ _ _ _ _ _ _ (mI (rtB (quS S R C))) (mI (dnB (quS S R C))) _ _
    rw [qu_rt, qu_dn]
    rfl) ?_
  refine r_aload_n 30 dX2_quilt_30 rfl ?_
  refine r_get 31 f_X2_10 dX2_quilt_31 0 rfl rfl ?_
  refine r_callVD (ws2 := [_, _, _, _]) (wr := [_]) 34 s_X2_50 dX2_quilt_34 (q_places (S := quS S R C)) rfl rfl 0 rfl rfl rfl [1, 2, 3] [0] rfl rfl rfl rfl (by decide) jRm_ok (Nat.le_of_ble_eq_true rfl) ⟨(Nat.le_of_ble_eq_true rfl), (Nat.le_of_ble_eq_true rfl)⟩ [0, 1, 2, 3] rfl rfl ?_
  exact r_iret 37 dX2_quilt_37 rfl rfl (Nat.le_of_ble_eq_true rfl) (Nat.le_of_ble_eq_true rfl) (jd rfl)
set_option maxRecDepth 100000 in
set_option maxHeartbeats 400000 in
theorem h_quilt0 {G : jG} {d : Nat} {x q t ai b pa ql qh : Nat} {sg : Int32} {ov : Value} {S : qS} {u v : Int32} (h : ¬ ((1 ≤ u ∧ u ≤ 4) ∧ (1 ≤ v ∧ v ≤ 4))) : Ct G yX2_quilt cX2_quilt 3 (some .int) (d + 4) 0 0 [.ref x, .int u, .int v] (hX x q t ai b pa sg ov :: (wS G q ql qh (S))) (jD (some (.int (-2))) (hX x q t ai b pa sg ov :: (wS G q ql qh (S)))) := by
  refine ct_of (by decide) (Nat.le_of_ble_eq_true rfl) (own := RX2) (nm := "quilt") rfl rfl (lv := [some (.ref x), some (.int u), some (.int v)]) rfl ?_
  refine r_iload_n 0 dX2_quilt_0 rfl ?_
  refine r_iconst (v := 1) 1 dX2_quilt_1 (by decide) ?_
  refine r_iconst (v := 4) 2 dX2_quilt_2 (by decide) ?_
  refine r_callSD (ws2 := [_, _, _, _]) (wr := [_, _, _, _]) 3 s_X2_46 dX2_quilt_3 (c_X2_isWithin) rfl rfl [] [0, 1, 2, 3] rfl rfl rfl rfl (by decide) jRm_ok (Nat.le_of_ble_eq_true rfl) ⟨(Nat.le_of_ble_eq_true rfl), (Nat.le_of_ble_eq_true rfl)⟩ [0, 1, 2, 3] rfl rfl ?_
  refine r_if_eqB 6 18 dX2_quilt_6 (by decide) (fun c_6 => ?_) (fun c_6 => ?_)
  · -- 6T
    refine r_bipush (v := -2) 18 dX2_quilt_18 (by decide) ?_
    exact r_iret 20 dX2_quilt_20 rfl rfl (Nat.le_of_ble_eq_true rfl) (Nat.le_of_ble_eq_true rfl) (jd rfl)
  · -- 6F
    refine r_iload_n 9 dX2_quilt_9 rfl ?_
    refine r_iconst (v := 1) 10 dX2_quilt_10 (by decide) ?_
    refine r_iconst (v := 4) 11 dX2_quilt_11 (by decide) ?_
    refine r_callSD (ws2 := [_, _, _, _]) (wr := [_, _, _, _]) 12 s_X2_46 dX2_quilt_12 (c_X2_isWithin) rfl rfl [] [0, 1, 2, 3] rfl rfl rfl rfl (by decide) jRm_ok (Nat.le_of_ble_eq_true rfl) ⟨(Nat.le_of_ble_eq_true rfl), (Nat.le_of_ble_eq_true rfl)⟩ [0, 1, 2, 3] rfl rfl ?_
    refine r_if_neB 15 21 dX2_quilt_15 (by decide) (fun c_15 => ?_) (fun c_15 => ?_)
    · -- 15T
      exact absurd ⟨c_6, c_15⟩ h
    · -- 15F
      refine r_bipush (v := -2) 18 dX2_quilt_18 (by decide) ?_
      exact r_iret 20 dX2_quilt_20 rfl rfl (Nat.le_of_ble_eq_true rfl) (Nat.le_of_ble_eq_true rfl) (jd rfl)
set_option maxRecDepth 100000 in
set_option maxHeartbeats 400000 in
theorem h_say1 {G : jG} {d : Nat} {x q t ai b pa ql qh : Nat} {ov : Value} {S : qS} {k : Nat} {pd : Nat → Nat} {y : Nat} (hk : k < 40) (hy : 33 ≤ y ∧ y ≤ 126) : Ct G yX2_say cX2_say 2 (some .int) (d + 2) 0 0 [.ref x, .int (nI y)] (hX x q t ai b pa (nI k) ov :: (wS G q ql qh (S) ++ [(pa, .inl (G.2.2.2.2.1, 40, .inl (fun i => nI (pd i))))])) (jD (some (.int (nI (k + 1)))) (hX x q t ai b pa (nI (k + 1)) ov :: (wS G q ql qh (S) ++ [(pa, .inl (G.2.2.2.2.1, 40, .inl (fun i => nI (upN pd k y i))))]))) := by
  refine ct_of (by decide) (Nat.le_of_ble_eq_true rfl) (own := RX2) (nm := "say") rfl rfl (lv := [some (.ref x), some (.int (nI y))]) rfl ?_
  refine r_iload_n 0 dX2_say_0 rfl ?_
  refine r_bipush (v := 33) 1 dX2_say_1 (by decide) ?_
  refine r_bipush (v := 126) 3 dX2_say_3 (by decide) ?_
  refine r_callSD (ws2 := [_, _, _, _, _]) (wr := [_, _, _, _, _]) 5 s_X2_46 dX2_say_5 (c_isW (a := 33) (b := 126) ⟨nI_le (a := 33) hy.1 (by omega), nI_le (b := 126) hy.2 (by decide)⟩) rfl rfl [] [0, 1, 2, 3, 4] rfl rfl rfl rfl (by decide) jRm_ok (Nat.le_of_ble_eq_true rfl) ⟨(Nat.le_of_ble_eq_true rfl), (Nat.le_of_ble_eq_true rfl)⟩ [0, 1, 2, 3, 4] rfl rfl ?_
  refine r_if_neT 8 14 dX2_say_8 (by decide) (by decide) ?_
  refine r_aload_n 14 dX2_say_14 rfl ?_
  refine r_get 15 f_X2_34 dX2_say_15 0 rfl rfl ?_
  refine r_aload_n 18 dX2_say_18 rfl ?_
  refine r_get 19 f_X2_30 dX2_say_19 0 rfl rfl ?_
  refine r_alen (v := 40) 22 dX2_say_22 4 2 rfl rfl (show Int32.ofNat 40 = 40 by decide) ?_
  refine r_icmp_ltN (b := 40) 23 29 dX2_say_23 (by decide) (by omega) (by decide) (fun c_23 => ?_) (fun c_23 => ?_)
  · -- 23T
    refine r_aload_n 29 dX2_say_29 rfl ?_
    refine r_get 30 f_X2_30 dX2_say_30 0 rfl rfl ?_
    refine r_aload_n 33 dX2_say_33 rfl ?_
    refine r_get 34 f_X2_34 dX2_say_34 0 rfl rfl ?_
    refine r_iload_n 37 dX2_say_37 rfl ?_
    refine r_i2c 38 dX2_say_38 rfl ?_
    refine r_ti (y := nI y) ((chr_ok y (by omega)).1) ?_
    refine r_castore (ws2 := [_, _, _, _, (_, .inl (_, _, .inl _))]) 39 dX2_say_39 4 rfl (vp_in_nI hk (by decide)) (nI_clamp (by omega)) rfl ?_
    refine r_arrI (f2 := fun i => nI (upN pd k y i)) (ws2 := [_, _, _, _, (_, .inl (_, _, .inl _))]) 4 rfl (fun j _ => by rw [(chr_ok y (by omega)).2]; unfold upd upN; split <;> rfl) rfl ?_
    refine r_aload_n 40 dX2_say_40 rfl ?_
    refine r_dup 41 dX2_say_41 rfl ?_
    refine r_get 42 f_X2_34 dX2_say_42 0 rfl rfl ?_
    refine r_iconst (v := 1) 45 dX2_say_45 (by decide) ?_
    refine r_iadd 46 dX2_say_46 ?_
    refine r_ti (y := nI (k + 1)) (nI_1 _) ?_
    refine r_put (ws2 := [(_, .inr (_, [_, _, _, _, _, _, _])), _, _, _, _]) 47 p_X2_34 dX2_say_47 0 rfl rfl rfl (Nat.le_of_ble_eq_true rfl) rfl ?_
    refine r_aload_n 50 dX2_say_50 rfl ?_
    refine r_get 51 f_X2_34 dX2_say_51 0 rfl rfl ?_
    exact r_iret 54 dX2_say_54 rfl rfl (Nat.le_of_ble_eq_true rfl) (Nat.le_of_ble_eq_true rfl) (jd rfl)
  · -- 23F
    exact absurd hk (by omega)
set_option maxRecDepth 100000 in
set_option maxHeartbeats 400000 in
theorem h_say0 {G : jG} {d : Nat} {x q t ai b pa ql qh : Nat} {ov : Value} {S : qS} {k : Nat} {pd : Nat → Int32} {y : Int32} (hy : ¬ (33 ≤ y ∧ y ≤ 126)) : Ct G yX2_say cX2_say 2 (some .int) (d + 2) 0 0 [.ref x, .int y] (hX x q t ai b pa (nI k) ov :: (wS G q ql qh (S) ++ [(pa, .inl (G.2.2.2.2.1, 40, .inl (pd)))])) (jD (some (.int (-2))) (hX x q t ai b pa (nI k) ov :: (wS G q ql qh (S) ++ [(pa, .inl (G.2.2.2.2.1, 40, .inl (pd)))]))) := by
  refine ct_of (by decide) (Nat.le_of_ble_eq_true rfl) (own := RX2) (nm := "say") rfl rfl (lv := [some (.ref x), some (.int y)]) rfl ?_
  refine r_iload_n 0 dX2_say_0 rfl ?_
  refine r_bipush (v := 33) 1 dX2_say_1 (by decide) ?_
  refine r_bipush (v := 126) 3 dX2_say_3 (by decide) ?_
  refine r_callSD (ws2 := [_, _, _, _, _]) (wr := [_, _, _, _, _]) 5 s_X2_46 dX2_say_5 (c_isW0 hy) rfl rfl [] [0, 1, 2, 3, 4] rfl rfl rfl rfl (by decide) jRm_ok (Nat.le_of_ble_eq_true rfl) ⟨(Nat.le_of_ble_eq_true rfl), (Nat.le_of_ble_eq_true rfl)⟩ [0, 1, 2, 3, 4] rfl rfl ?_
  refine r_if_neF 8 14 dX2_say_8 (by decide) (by decide) ?_
  refine r_bipush (v := -2) 11 dX2_say_11 (by decide) ?_
  exact r_iret 13 dX2_say_13 rfl rfl (Nat.le_of_ble_eq_true rfl) (Nat.le_of_ble_eq_true rfl) (jd rfl)
set_option maxRecDepth 100000 in
set_option maxHeartbeats 400000 in
theorem h_say4 {G : jG} {d : Nat} {x q t ai b pa ql qh : Nat} {ov : Value} {S : qS} {k : Nat} {pd : Nat → Int32} {y : Int32} (hy : 33 ≤ y ∧ y ≤ 126) (hk : k = 40) : Ct G yX2_say cX2_say 2 (some .int) (d + 2) 0 0 [.ref x, .int y] (hX x q t ai b pa (nI k) ov :: (wS G q ql qh (S) ++ [(pa, .inl (G.2.2.2.2.1, 40, .inl (pd)))])) (jD (some (.int (-4))) (hX x q t ai b pa (nI k) ov :: (wS G q ql qh (S) ++ [(pa, .inl (G.2.2.2.2.1, 40, .inl (pd)))]))) := by
  refine ct_of (by decide) (Nat.le_of_ble_eq_true rfl) (own := RX2) (nm := "say") rfl rfl (lv := [some (.ref x), some (.int y)]) rfl ?_
  refine r_iload_n 0 dX2_say_0 rfl ?_
  refine r_bipush (v := 33) 1 dX2_say_1 (by decide) ?_
  refine r_bipush (v := 126) 3 dX2_say_3 (by decide) ?_
  refine r_callSD (ws2 := [_, _, _, _, _]) (wr := [_, _, _, _, _]) 5 s_X2_46 dX2_say_5 (c_isW hy) rfl rfl [] [0, 1, 2, 3, 4] rfl rfl rfl rfl (by decide) jRm_ok (Nat.le_of_ble_eq_true rfl) ⟨(Nat.le_of_ble_eq_true rfl), (Nat.le_of_ble_eq_true rfl)⟩ [0, 1, 2, 3, 4] rfl rfl ?_
  refine r_if_neT 8 14 dX2_say_8 (by decide) (by decide) ?_
  refine r_aload_n 14 dX2_say_14 rfl ?_
  refine r_get 15 f_X2_34 dX2_say_15 0 rfl rfl ?_
  refine r_aload_n 18 dX2_say_18 rfl ?_
  refine r_get 19 f_X2_30 dX2_say_19 0 rfl rfl ?_
  refine r_alen (v := 40) 22 dX2_say_22 4 2 rfl rfl (show Int32.ofNat 40 = 40 by decide) ?_
  refine r_icmp_ltN (b := 40) 23 29 dX2_say_23 (by decide) (by omega) (by decide) (fun c_23 => ?_) (fun c_23 => ?_)
  · -- 23T
    exact absurd c_23 (by omega)
  · -- 23F
    refine r_bipush (v := -4) 26 dX2_say_26 (by decide) ?_
    exact r_iret 28 dX2_say_28 rfl rfl (Nat.le_of_ble_eq_true rfl) (Nat.le_of_ble_eq_true rfl) (jd rfl)
set_option maxRecDepth 100000 in
set_option maxHeartbeats 400000 in
theorem h_wipe {G : jG} {d : Nat} {x q t ai b pa ql qh : Nat} {ov : Value} {S : qS} {k : Nat} : Ct G yX2_wipe cX2_wipe 2 (some .int) (d + 1) 0 0 [.ref x] (hX x q t ai b pa (nI k) ov :: (wS G q ql qh (S))) (jD (some (.int (nI k))) (hX x q t ai b pa (nI 0) ov :: (wS G q ql qh (S)))) := by
  refine ct_of (by decide) (Nat.le_of_ble_eq_true rfl) (own := RX2) (nm := "wipe") rfl rfl (lv := [some (.ref x), none]) rfl ?_
  refine r_aload_n 0 dX2_wipe_0 rfl ?_
  refine r_get 1 f_X2_34 dX2_wipe_1 0 rfl rfl ?_
  refine r_istore_n (lv2 := [_, _]) 4 dX2_wipe_4 (by decide) rfl rfl ?_
  refine r_aload_n 5 dX2_wipe_5 rfl ?_
  refine r_iconst (v := 0) 6 dX2_wipe_6 (by decide) ?_
  refine r_ti (y := nI 0) (nI_0.symm) ?_
  refine r_put (ws2 := [(_, .inr (_, [_, _, _, _, _, _, _])), _, _, _]) 7 p_X2_34 dX2_wipe_7 0 rfl rfl rfl (Nat.le_of_ble_eq_true rfl) rfl ?_
  refine r_iload_n 10 dX2_wipe_10 rfl ?_
  exact r_iret 11 dX2_wipe_11 rfl rfl (Nat.le_of_ble_eq_true rfl) (Nat.le_of_ble_eq_true rfl) (jd rfl)
theorem can_I : ∀ x, x < 127 → (((0 : Int32) ≤ nI x - 97 ∧ nI x - 97 ≤ 3) ↔ (97 ≤ x ∧ x ≤ 100)) := by
  have h : (List.range 127).all (fun x => decide (((0 : Int32) ≤ nI x - 97 ∧ nI x - 97 ≤ 3) ↔ (97 ≤ x ∧ x ≤ 100))) = true := by decide +kernel
  intro x hx
  exact of_decide_eq_true (List.all_eq_true.mp h x (List.mem_range.mpr hx))
theorem canD_iff {x : Nat} : canD x = true ↔ x = 46 ∨ (97 ≤ x ∧ x ≤ 100) := by
  unfold canD
  simp only [Bool.or_eq_true, Bool.and_eq_true, decide_eq_true_eq]
set_option maxRecDepth 100000 in
set_option maxHeartbeats 400000 in
theorem c_canStand {G : jG} {d : Nat} {y : Nat} (hy : y ≤ 126) : Ct G yX2_canStand cX2_canStand 1 (some .boolean) (d + 3) 0 0 [.int (nI y)] [] (jD (some (.int (bP (canD y = true)))) []) := by
  refine ct_of (by decide) (Nat.le_of_ble_eq_true rfl) (own := RX2) (nm := "canStand") rfl rfl (lv := [some (.int (nI y))]) rfl ?_
  refine r_iload_n 0 dX2_canStand_0 rfl ?_
  refine r_bipush (v := 46) 1 dX2_canStand_1 (by decide) ?_
  refine r_icmp_eqN (b := 46) 3 16 dX2_canStand_3 (by decide) (by omega) (by decide) (fun c_3 => ?_) (fun c_3 => ?_)
  · -- 3T
    refine r_iconst (v := 1) 16 dX2_canStand_16 (by decide) ?_
    refine r_goto 17 21 dX2_canStand_17 (by decide) ?_
    exact r_iret 21 dX2_canStand_21 rfl rfl (Nat.le_of_ble_eq_true rfl) (Nat.le_of_ble_eq_true rfl) (jd (bP_t (canD_iff.mpr (by first | exact Or.inl c_3 | exact Or.inr ((can_I y (by omega)).mp c_13)))).symm)
  · -- 3F
    refine r_iload_n 6 dX2_canStand_6 rfl ?_
    refine r_bipush (v := 97) 7 dX2_canStand_7 (by decide) ?_
    refine r_isub 9 dX2_canStand_9 ?_
    refine r_callSD (ws2 := []) (wr := []) 10 s_X2_83 dX2_canStand_10 (c_X2_isFamily) rfl rfl [] [] rfl rfl rfl rfl (by decide) jRm_ok (Nat.le_of_ble_eq_true rfl) ⟨(Nat.le_of_ble_eq_true rfl), (Nat.le_of_ble_eq_true rfl)⟩ [] rfl rfl ?_
    refine r_if_eqB 13 20 dX2_canStand_13 (by decide) (fun c_13 => ?_) (fun c_13 => ?_)
    · -- 13T
      refine r_iconst (v := 0) 20 dX2_canStand_20 (by decide) ?_
      exact r_iret 21 dX2_canStand_21 rfl rfl (Nat.le_of_ble_eq_true rfl) (Nat.le_of_ble_eq_true rfl) (jd (bP_f (fun z => (canD_iff.mp z).elim (fun w => c_3 w) (fun w => c_13 ((can_I y (by omega)).mpr w)))).symm)
    · -- 13F
      refine r_iconst (v := 1) 16 dX2_canStand_16 (by decide) ?_
      refine r_goto 17 21 dX2_canStand_17 (by decide) ?_
      exact r_iret 21 dX2_canStand_21 rfl rfl (Nat.le_of_ble_eq_true rfl) (Nat.le_of_ble_eq_true rfl) (jd (bP_t (canD_iff.mpr (by first | exact Or.inl c_3 | exact Or.inr ((can_I y (by omega)).mp c_13)))).symm)
set_option maxRecDepth 100000 in
set_option maxHeartbeats 400000 in
theorem lp_hfault {G : jG} {d : Nat} {x q t ai b pa ql qh : Nat} {ov : Value} {S : qS} {k : Nat} (hS : wf S) {pd : Nat → Nat} (hw : wp pd k) {z : Int32} : ∀ (n : Nat) (i : Nat), k + 1 ≤ i + n → i ≤ k → i ≤ sP S → ftR (sP S) k pd n i = z → Rn G RX2 "fault" cX2_fault 2 (some .int) (jR (d + 4) 0 0) jX0 (jE G (jD (some (.int (z))) (hX x q t ai b pa (nI k) ov :: (wS G q ql qh (S) ++ [(pa, .inl (G.2.2.2.2.1, 40, .inl (fun i => nI (pd i))))]))) 0 0) 0 0 2 [some (.ref x), some (.int (nI i))] [] (hX x q t ai b pa (nI k) ov :: (wS G q ql qh (S) ++ [(pa, .inl (G.2.2.2.2.1, 40, .inl (fun i => nI (pd i))))])) := by
  intro n
  induction n with
  | zero => intros; omega
  | succ n ih =>
    intro i h1 h2 h3 hr
    have h16 := hS.p16
    have hk40 := hw.1
    refine r_iload_n 2 dX2_fault_2 rfl ?_
    refine r_aload_n 3 dX2_fault_3 rfl ?_
    refine r_get 4 f_X2_34 dX2_fault_4 0 rfl rfl ?_
    refine r_icmp_geN 7 50 dX2_fault_7 (by decide) (by omega) (by omega) (fun c_7 => ?_) (fun c_7 => ?_)
    · -- 7T
      have e : ftR (sP S) k pd (n + 1) i = if k < sP S then nI k else -6 := if_neg (by omega)
      rw [e] at hr
      refine r_aload_n 50 dX2_fault_50 rfl ?_
      refine r_get 51 f_X2_34 dX2_fault_51 0 rfl rfl ?_
      refine r_aload_n 54 dX2_fault_54 rfl ?_
      refine r_get 55 f_X2_10 dX2_fault_55 0 rfl rfl ?_
      refine r_callVD (ws2 := [_, _, _, _, _]) (wr := [_, _]) 58 s_X2_50 dX2_fault_58 (q_places) rfl rfl 0 rfl rfl rfl [1, 2, 3] [0, 4] rfl rfl rfl rfl (by decide) jRm_ok (Nat.le_of_ble_eq_true rfl) ⟨(Nat.le_of_ble_eq_true rfl), (Nat.le_of_ble_eq_true rfl)⟩ [0, 2, 3, 4, 1] rfl rfl ?_
      refine r_icmp_geN 61 71 dX2_fault_61 (by decide) (by omega) (by omega) (fun c_61 => ?_) (fun c_61 => ?_)
      · -- 61T
        refine r_bipush (v := -6) 71 dX2_fault_71 (by decide) ?_
        exact r_iret 73 dX2_fault_73 rfl rfl (Nat.le_of_ble_eq_true rfl) (Nat.le_of_ble_eq_true rfl) (jd (by first | (rw [if_neg (by omega)] at hr; exact hr) | (rw [if_pos (by omega)] at hr; exact hr)))
      · -- 61F
        refine r_aload_n 64 dX2_fault_64 rfl ?_
        refine r_get 65 f_X2_34 dX2_fault_65 0 rfl rfl ?_
        refine r_goto 68 73 dX2_fault_68 (by decide) ?_
        exact r_iret 73 dX2_fault_73 rfl rfl (Nat.le_of_ble_eq_true rfl) (Nat.le_of_ble_eq_true rfl) (jd (by first | (rw [if_neg (by omega)] at hr; exact hr) | (rw [if_pos (by omega)] at hr; exact hr)))
    · -- 7F
      refine r_iload_n 10 dX2_fault_10 rfl ?_
      refine r_aload_n 11 dX2_fault_11 rfl ?_
      refine r_get 12 f_X2_30 dX2_fault_12 0 rfl rfl ?_
      refine r_alen (v := 40) 15 dX2_fault_15 4 2 rfl rfl (show Int32.ofNat 40 = 40 by decide) ?_
      refine r_icmp_geN (b := 40) 16 50 dX2_fault_16 (by decide) (by omega) (by decide) (fun c_16 => ?_) (fun c_16 => ?_)
      · -- 16T
        exact absurd c_16 (by omega)
      · -- 16F
        refine r_iload_n 19 dX2_fault_19 rfl ?_
        refine r_aload_n 20 dX2_fault_20 rfl ?_
        refine r_get 21 f_X2_10 dX2_fault_21 0 rfl rfl ?_
        refine r_callVD (ws2 := [_, _, _, _, _]) (wr := [_, _]) 24 s_X2_50 dX2_fault_24 (q_places) rfl rfl 0 rfl rfl rfl [1, 2, 3] [0, 4] rfl rfl rfl rfl (by decide) jRm_ok (Nat.le_of_ble_eq_true rfl) ⟨(Nat.le_of_ble_eq_true rfl), (Nat.le_of_ble_eq_true rfl)⟩ [0, 2, 3, 4, 1] rfl rfl ?_
        refine r_icmp_geN 27 42 dX2_fault_27 (by decide) (by omega) (by omega) (fun c_27 => ?_) (fun c_27 => ?_)
        · -- 27T
          have e : ftR (sP S) k pd (n + 1) i = nI i := (if_pos c_7).trans (if_pos (by omega))
          rw [e] at hr
          refine r_iload_n 42 dX2_fault_42 rfl ?_
          exact r_iret 43 dX2_fault_43 rfl rfl (Nat.le_of_ble_eq_true rfl) (Nat.le_of_ble_eq_true rfl) (jd hr)
        · -- 27F
          refine r_aload_n 30 dX2_fault_30 rfl ?_
          refine r_get 31 f_X2_30 dX2_fault_31 0 rfl rfl ?_
          refine r_iload_n 34 dX2_fault_34 rfl ?_
          refine r_caload 35 dX2_fault_35 4 rfl (vp_in_nI (by omega) (by decide)) (nI_clamp (by omega)) ?_
          refine r_callSD (ws2 := [_, _, _, _, _]) (wr := [_, _, _, _, _]) 36 s_X2_54 dX2_fault_36 (c_canStand (hw.2 i c_7).2) rfl rfl [] [0, 1, 2, 3, 4] rfl rfl rfl rfl (by decide) jRm_ok (Nat.le_of_ble_eq_true rfl) ⟨(Nat.le_of_ble_eq_true rfl), (Nat.le_of_ble_eq_true rfl)⟩ [0, 1, 2, 3, 4] rfl rfl ?_
          refine r_if_neB 39 44 dX2_fault_39 (by decide) (fun c_39 => ?_) (fun c_39 => ?_)
          · -- 39T
            refine r_iinc (lv2 := [_, _]) 44 dX2_fault_44 rfl (jinc) (by decide) rfl rfl ?_
            refine r_goto 47 2 dX2_fault_47 (by decide) ?_
            have e : ftR (sP S) k pd (n + 1) i = ftR (sP S) k pd n (i + 1) := (if_pos c_7).trans ((if_neg (by omega)).trans (if_pos c_39))
            rw [e] at hr
            exact ih (i + 1) (by omega) (by omega) (by omega) hr
          · -- 39F
            have e : ftR (sP S) k pd (n + 1) i = nI i := (if_pos c_7).trans ((if_neg (by omega)).trans (if_neg c_39))
            rw [e] at hr
            refine r_iload_n 42 dX2_fault_42 rfl ?_
            exact r_iret 43 dX2_fault_43 rfl rfl (Nat.le_of_ble_eq_true rfl) (Nat.le_of_ble_eq_true rfl) (jd hr)
set_option maxRecDepth 100000 in
set_option maxHeartbeats 400000 in
theorem h_fault {G : jG} {d : Nat} {x q t ai b pa ql qh : Nat} {ov : Value} {S : qS} {k : Nat} (hS : wf S) {pd : Nat → Nat} (hw : wp pd k) : Ct G yX2_fault cX2_fault 2 (some .int) (d + 4) 0 0 [.ref x] (hX x q t ai b pa (nI k) ov :: (wS G q ql qh (S) ++ [(pa, .inl (G.2.2.2.2.1, 40, .inl (fun i => nI (pd i))))])) (jD (some (.int (ftR (sP S) k pd (k + 1) 0))) (hX x q t ai b pa (nI k) ov :: (wS G q ql qh (S) ++ [(pa, .inl (G.2.2.2.2.1, 40, .inl (fun i => nI (pd i))))]))) := by
  refine ct_of (by decide) (Nat.le_of_ble_eq_true rfl) (own := RX2) (nm := "fault") rfl rfl (lv := [some (.ref x), none]) rfl ?_
  refine r_iconst (v := 0) 0 dX2_fault_0 (by decide) ?_
  refine r_ti (y := nI 0) (nI_0.symm) ?_
  refine r_istore_n (lv2 := [_, _]) 1 dX2_fault_1 (by decide) rfl rfl ?_
  exact lp_hfault hS hw (k + 1) 0 (by omega) (by omega) (by omega) rfl
def plF (pd : Nat → Nat) (n m i : Nat) : Nat := if i < m then padF pd n i else 4
theorem plF_s {pd : Nat → Nat} {n m : Nat} : upN (plF pd n m) m (padF pd n m) = plF pd n (m + 1) := by
  funext i
  unfold upN plF
  by_cases h : i = m
  · rw [if_pos h, if_pos (by omega), h]
  · rw [if_neg h]
    by_cases h2 : i < m
    · rw [if_pos h2, if_pos (by omega)]
    · rw [if_neg h2, if_neg (by omega)]
theorem plF_e {pd : Nat → Nat} {n : Nat} : plF pd n n = padF pd n := by
  funext i
  unfold plF
  by_cases h : i < n
  · rw [if_pos h]
  · rw [if_neg h]
    unfold padF
    rw [if_neg (fun z => h z.1)]
theorem q_putP {G : jG} {d q ql qh : Nat} {r c k o n hr hb rt dn : Int32} {Ha : Nat → Int32} {F : Nat → Nat} {pd : Nat → Nat} {p m : Nat} (hp : p < 16) (hm : p < m) (h4 : F p = 4) (hc : canD (pd p) = true) : Ct G yX1_put cX1_put 3 none (d + 3) 0 0 [.ref q, .int (nI p), .int (nI (pd p) - 97)] (wQ G q ql qh r c k o n hr hb rt dn (lyA F) Ha) (jD none (wQ G q ql qh r c k o n hr hb rt dn (lyA (upN F p (padF pd m p))) Ha)) := by
  by_cases h : pd p = 46
  · have e : padF pd m p = 4 := if_neg (fun z => z.2 h)
    have e2 : upN F p 4 = F := by
      funext i
      unfold upN
      split
      · next hi => subst hi; exact h4.symm
      · rfl
    rw [e, e2, h]
    exact q_putN (by decide)
  · have h97 : 97 ≤ pd p ∧ pd p ≤ 100 := (canD_iff.mp hc).resolve_left h
    have e : padF pd m p = pd p - 97 := if_pos ⟨hm, h⟩
    have e2 : nI (pd p) - 97 = nI (pd p - 97) := pk_sub (b := 97) (by omega)
    rw [e, e2]
    exact q_putA hp (by omega) h4
set_option maxRecDepth 100000 in
set_option maxHeartbeats 400000 in
theorem lp_hlay {G : jG} {d : Nat} {x q t ai b pa ql qh : Nat} {ov : Value} {S : qS} {k : Nat} (hS : wf S) {pd : Nat → Nat} (hw : wp pd k) (hk : k = sP S) (hc : ∀ j, j < k → canD (pd j) = true) : ∀ (n : Nat) (i : Nat), k + 1 ≤ i + n → i ≤ k → Rn G RX2 "lay" cX2_lay 2 (some .int) (jR (d + 5) 0 0) jX0 (jE G (jD (some (.int (nI (cnt (sqB (layS S pd)) 16)))) (hX x q t ai b pa (nI 0) ov :: (wS G q ql qh (layS S pd) ++ [(pa, .inl (G.2.2.2.2.1, 40, .inl (fun i => nI (pd i))))]))) 0 0) 0 0 21 [some (.ref x), some (.int (nI i))] [] (hX x q t ai b pa (nI k) ov :: (wQ G q ql qh (nI (sR S)) (nI (sC S)) (nI (sK S)) (nI (sO S)) (nI (sN S)) (mI (hrB S)) (mI (hbB S)) 0 0 (lyA (plF pd (sP S) (i))) (fun f => mI (sE S f)) ++ [(pa, .inl (G.2.2.2.2.1, 40, .inl (fun i => nI (pd i))))])) := by
  intro n
  induction n with
  | zero => intros; omega
  | succ n ih =>
    intro i h1 h2
    have h16 := hS.p16
    have hk40 := hw.1
    refine r_iload_n 21 dX2_lay_21 rfl ?_
    refine r_aload_n 22 dX2_lay_22 rfl ?_
    refine r_get 23 f_X2_34 dX2_lay_23 0 rfl rfl ?_
    refine r_icmp_geN 26 61 dX2_lay_26 (by decide) (by omega) (by omega) (fun c_26 => ?_) (fun c_26 => ?_)
    · -- 26T
      obtain rfl : i = k := by omega
      subst hk
      rw [plF_e]
      refine r_ws (ws2 := (hX x q t ai b pa (nI (sP S)) ov :: (wS G q ql qh (layS S pd) ++ [(pa, .inl (G.2.2.2.2.1, 40, .inl (fun i => nI (pd i))))]))) (by
        show _ = hX x q t ai b pa (nI (sP S)) ov :: (wQ G q ql qh _ _ _ _ _ _ _ (mI (rtB (layS S pd))) (mI (dnB (layS S pd))) _ _ ++ [(pa, .inl (G.2.2.2.2.1, 40, .inl (fun i => nI (pd i))))])
        rw [show mI (rtB (layS S pd)) = 0 from mI_0, show mI (dnB (layS S pd)) = 0 from mI_0]
        rfl) ?_
      refine r_aload_n 61 dX2_lay_61 rfl ?_
      refine r_iconst (v := 0) 62 dX2_lay_62 (by decide) ?_
      refine r_ti (y := nI 0) (nI_0.symm) ?_
      refine r_put (ws2 := [(_, .inr (_, [_, _, _, _, _, _, _])), _, _, _, _]) 63 p_X2_34 dX2_lay_63 0 rfl rfl rfl (Nat.le_of_ble_eq_true rfl) rfl ?_
      refine r_aload_n 66 dX2_lay_66 rfl ?_
      refine r_get 67 f_X2_10 dX2_lay_67 0 rfl rfl ?_
      refine r_callVD (ws2 := [_, _, _, _, _]) (wr := [_, _]) 70 s_X2_67 dX2_lay_70 (q_squares (S := layS S pd)) rfl rfl 0 rfl rfl rfl [1, 2, 3] [0, 4] rfl rfl rfl rfl (by decide) jRm_ok (Nat.le_of_ble_eq_true rfl) ⟨(Nat.le_of_ble_eq_true rfl), (Nat.le_of_ble_eq_true rfl)⟩ [0, 2, 3, 4, 1] rfl rfl ?_
      refine r_callSD (ws2 := [_, _, _, _, _]) (wr := [_, _, _, _, _]) 73 s_X2_70 dX2_lay_73 (c_bitCount) rfl rfl [] [0, 1, 2, 3, 4] rfl rfl rfl rfl (by decide) jRm_ok (Nat.le_of_ble_eq_true rfl) ⟨(Nat.le_of_ble_eq_true rfl), (Nat.le_of_ble_eq_true rfl)⟩ [0, 1, 2, 3, 4] rfl rfl ?_
      exact r_iret 76 dX2_lay_76 rfl rfl (Nat.le_of_ble_eq_true rfl) (Nat.le_of_ble_eq_true rfl) (jd rfl)
    · -- 26F
      refine r_iload_n 29 dX2_lay_29 rfl ?_
      refine r_aload_n 30 dX2_lay_30 rfl ?_
      refine r_get 31 f_X2_30 dX2_lay_31 0 rfl rfl ?_
      refine r_alen (v := 40) 34 dX2_lay_34 4 2 rfl rfl (show Int32.ofNat 40 = 40 by decide) ?_
      refine r_icmp_geN (b := 40) 35 61 dX2_lay_35 (by decide) (by omega) (by decide) (fun c_35 => ?_) (fun c_35 => ?_)
      · -- 35T
        exact absurd c_35 (by omega)
      · -- 35F
        refine r_aload_n 38 dX2_lay_38 rfl ?_
        refine r_get 39 f_X2_10 dX2_lay_39 0 rfl rfl ?_
        refine r_iload_n 42 dX2_lay_42 rfl ?_
        refine r_aload_n 43 dX2_lay_43 rfl ?_
        refine r_get 44 f_X2_30 dX2_lay_44 0 rfl rfl ?_
        refine r_iload_n 47 dX2_lay_47 rfl ?_
        refine r_caload 48 dX2_lay_48 4 rfl (vp_in_nI (by omega) (by decide)) (nI_clamp (by omega)) ?_
        refine r_bipush (v := 97) 49 dX2_lay_49 (by decide) ?_
        refine r_isub 51 dX2_lay_51 ?_
        refine r_callVD (ws2 := [_, _, _, _, _]) (wr := [_, _]) 52 s_X2_64 dX2_lay_52 (q_putP (m := sP S) (show i < 16 by omega) (by omega) (if_neg (Nat.lt_irrefl i)) (hc i c_26)) rfl rfl 0 rfl rfl rfl [1, 2, 3] [0, 4] rfl rfl rfl rfl (by decide) jRm_ok (Nat.le_of_ble_eq_true rfl) ⟨(Nat.le_of_ble_eq_true rfl), (Nat.le_of_ble_eq_true rfl)⟩ [0, 2, 3, 4, 1] rfl rfl ?_
        rw [plF_s]
        refine r_iinc (lv2 := [_, _]) 55 dX2_lay_55 rfl (jinc) (by decide) rfl rfl ?_
        refine r_goto 58 21 dX2_lay_58 (by decide) ?_
        exact ih (i + 1) (by omega) (by omega)
set_option maxRecDepth 100000 in
set_option maxHeartbeats 400000 in
theorem h_lay1 {G : jG} {d : Nat} {x q t ai b pa ql qh : Nat} {ov : Value} {S : qS} {k : Nat} (hS : wf S) {pd : Nat → Nat} (hw : wp pd k) (hk : k = sP S) (hc : ∀ j, j < k → canD (pd j) = true) (hf : ftR (sP S) k pd (k + 1) 0 = -6) : Ct G yX2_lay cX2_lay 2 (some .int) (d + 5) 0 0 [.ref x] (hX x q t ai b pa (nI k) ov :: (wS G q ql qh (S) ++ [(pa, .inl (G.2.2.2.2.1, 40, .inl (fun i => nI (pd i))))])) (jD (some (.int (nI (cnt (sqB (layS S pd)) 16)))) (hX x q t ai b pa (nI 0) ov :: (wS G q ql qh (layS S pd) ++ [(pa, .inl (G.2.2.2.2.1, 40, .inl (fun i => nI (pd i))))]))) := by
  refine ct_of (by decide) (Nat.le_of_ble_eq_true rfl) (own := RX2) (nm := "lay") rfl rfl (lv := [some (.ref x), none]) rfl ?_
  refine r_aload_n 0 dX2_lay_0 rfl ?_
  refine r_callVD (ws2 := [_, _, _, _, _]) (wr := []) 1 s_X2_58 dX2_lay_1 (h_fault hS hw) rfl rfl 0 rfl rfl rfl [0, 1, 2, 3, 4] [] rfl rfl rfl rfl (by decide) jRm_ok (Nat.le_of_ble_eq_true rfl) ⟨(Nat.le_of_ble_eq_true rfl), (Nat.le_of_ble_eq_true rfl)⟩ [0, 1, 2, 3, 4] rfl rfl ?_
  refine r_ti (y := -6) (hf) ?_
  refine r_bipush (v := -6) 4 dX2_lay_4 (by decide) ?_
  refine r_icmp_eqT 6 12 dX2_lay_6 (by decide) (rfl) ?_
  refine r_aload_n 12 dX2_lay_12 rfl ?_
  refine r_get 13 f_X2_10 dX2_lay_13 0 rfl rfl ?_
  refine r_callVD (ws2 := [_, _, _, _, _]) (wr := [_, _]) 16 s_X2_61 dX2_lay_16 (c_X1_strip) rfl rfl 0 rfl rfl rfl [1, 2, 3] [0, 4] rfl rfl rfl rfl (by decide) jRm_ok (Nat.le_of_ble_eq_true rfl) ⟨(Nat.le_of_ble_eq_true rfl), (Nat.le_of_ble_eq_true rfl)⟩ [0, 2, 3, 4, 1] rfl rfl ?_
  refine r_iconst (v := 0) 19 dX2_lay_19 (by decide) ?_
  refine r_ti (y := nI 0) (nI_0.symm) ?_
  refine r_istore_n (lv2 := [_, _]) 20 dX2_lay_20 (by decide) rfl rfl ?_
  refine r_arrI (f2 := lyA (plF pd (sP S) 0)) (ws2 := [_, _, (_, .inl (_, _, .inl _)), _, _]) 2 rfl lay_ly rfl ?_
  exact lp_hlay hS hw hk hc (k + 1) 0 (by omega) (by omega)
set_option maxRecDepth 100000 in
set_option maxHeartbeats 400000 in
theorem h_lay0 {G : jG} {d : Nat} {x q t ai b pa ql qh : Nat} {ov : Value} {S : qS} {k : Nat} (hS : wf S) {pd : Nat → Nat} (hw : wp pd k) (hf : ¬ ftR (sP S) k pd (k + 1) 0 = -6) : Ct G yX2_lay cX2_lay 2 (some .int) (d + 5) 0 0 [.ref x] (hX x q t ai b pa (nI k) ov :: (wS G q ql qh (S) ++ [(pa, .inl (G.2.2.2.2.1, 40, .inl (fun i => nI (pd i))))])) (jD (some (.int (-5))) (hX x q t ai b pa (nI k) ov :: (wS G q ql qh (S) ++ [(pa, .inl (G.2.2.2.2.1, 40, .inl (fun i => nI (pd i))))]))) := by
  refine ct_of (by decide) (Nat.le_of_ble_eq_true rfl) (own := RX2) (nm := "lay") rfl rfl (lv := [some (.ref x), none]) rfl ?_
  refine r_aload_n 0 dX2_lay_0 rfl ?_
  refine r_callVD (ws2 := [_, _, _, _, _]) (wr := []) 1 s_X2_58 dX2_lay_1 (h_fault hS hw) rfl rfl 0 rfl rfl rfl [0, 1, 2, 3, 4] [] rfl rfl rfl rfl (by decide) jRm_ok (Nat.le_of_ble_eq_true rfl) ⟨(Nat.le_of_ble_eq_true rfl), (Nat.le_of_ble_eq_true rfl)⟩ [0, 1, 2, 3, 4] rfl rfl ?_
  refine r_bipush (v := -6) 4 dX2_lay_4 (by decide) ?_
  refine r_icmp_eqF 6 12 dX2_lay_6 (by decide) (hf) ?_
  refine r_bipush (v := -5) 9 dX2_lay_9 (by decide) ?_
  exact r_iret 11 dX2_lay_11 rfl rfl (Nat.le_of_ble_eq_true rfl) (Nat.le_of_ble_eq_true rfl) (jd rfl)
set_option maxRecDepth 100000 in
set_option maxHeartbeats 400000 in
theorem h_family1 {G : jG} {d : Nat} {x q t ai b pa ql qh : Nat} {sg : Int32} {ov : Value} {S : qS} (hS : wf S) {p : Nat} (hp : p < sP S) : Ct G yX2_family cX2_family 2 (some .int) (d + 4) 0 0 [.ref x, .int (nI p)] (hX x q t ai b pa sg ov :: (wS G q ql qh (S))) (jD (some (.int (fI (sF S p)))) (hX x q t ai b pa sg ov :: (wS G q ql qh (S)))) := by
  refine ct_of (by decide) (Nat.le_of_ble_eq_true rfl) (own := RX2) (nm := "family") rfl rfl (lv := [some (.ref x), some (.int (nI p))]) rfl ?_
  have h16 := hS.p16
  refine r_aload_n 0 dX2_family_0 rfl ?_
  refine r_get 1 f_X2_10 dX2_family_1 0 rfl rfl ?_
  refine r_iload_n 4 dX2_family_4 rfl ?_
  refine r_callVD (ws2 := [_, _, _, _]) (wr := [_]) 5 s_X2_76 dX2_family_5 (c_X1_isPlace) rfl rfl 0 rfl rfl rfl [1, 2, 3] [0] rfl rfl rfl rfl (by decide) jRm_ok (Nat.le_of_ble_eq_true rfl) ⟨(Nat.le_of_ble_eq_true rfl), (Nat.le_of_ble_eq_true rfl)⟩ [0, 1, 2, 3] rfl rfl ?_
  refine r_if_eqB 8 22 dX2_family_8 (by decide) (fun c_8 => ?_) (fun c_8 => ?_)
  · -- 8T
    exact absurd (plB_of hS hp) c_8
  · -- 8F
    refine r_aload_n 11 dX2_family_11 rfl ?_
    refine r_get 12 f_X2_10 dX2_family_12 0 rfl rfl ?_
    refine r_iload_n 15 dX2_family_15 rfl ?_
    refine r_callVD (ws2 := [_, _, _, _]) (wr := [_]) 16 s_X2_80 dX2_family_16 (c_X1_familyAt (show p < 16 by omega)) rfl rfl 0 rfl rfl rfl [1, 2, 3] [0] rfl rfl rfl rfl (by decide) jRm_ok (Nat.le_of_ble_eq_true rfl) ⟨(Nat.le_of_ble_eq_true rfl), (Nat.le_of_ble_eq_true rfl)⟩ [0, 1, 2, 3] rfl rfl ?_
    refine r_goto 19 23 dX2_family_19 (by decide) ?_
    exact r_iret 23 dX2_family_23 rfl rfl (Nat.le_of_ble_eq_true rfl) (Nat.le_of_ble_eq_true rfl) (jd rfl)
set_option maxRecDepth 100000 in
set_option maxHeartbeats 400000 in
theorem h_family0 {G : jG} {d : Nat} {x q t ai b pa ql qh : Nat} {sg : Int32} {ov : Value} {S : qS} {u : Int32} (h : ¬ plB S u = true) : Ct G yX2_family cX2_family 2 (some .int) (d + 4) 0 0 [.ref x, .int u] (hX x q t ai b pa sg ov :: (wS G q ql qh (S))) (jD (some (.int (-1))) (hX x q t ai b pa sg ov :: (wS G q ql qh (S)))) := by
  refine ct_of (by decide) (Nat.le_of_ble_eq_true rfl) (own := RX2) (nm := "family") rfl rfl (lv := [some (.ref x), some (.int u)]) rfl ?_
  refine r_aload_n 0 dX2_family_0 rfl ?_
  refine r_get 1 f_X2_10 dX2_family_1 0 rfl rfl ?_
  refine r_iload_n 4 dX2_family_4 rfl ?_
  refine r_callVD (ws2 := [_, _, _, _]) (wr := [_]) 5 s_X2_76 dX2_family_5 (c_X1_isPlace) rfl rfl 0 rfl rfl rfl [1, 2, 3] [0] rfl rfl rfl rfl (by decide) jRm_ok (Nat.le_of_ble_eq_true rfl) ⟨(Nat.le_of_ble_eq_true rfl), (Nat.le_of_ble_eq_true rfl)⟩ [0, 1, 2, 3] rfl rfl ?_
  refine r_if_eqB 8 22 dX2_family_8 (by decide) (fun c_8 => ?_) (fun c_8 => ?_)
  · -- 8T
    refine r_iconst (v := -1) 22 dX2_family_22 (by decide) ?_
    exact r_iret 23 dX2_family_23 rfl rfl (Nat.le_of_ble_eq_true rfl) (Nat.le_of_ble_eq_true rfl) (jd rfl)
  · -- 8F
    exact absurd c_8 h
set_option maxRecDepth 100000 in
set_option maxHeartbeats 400000 in
theorem h_foes1 {G : jG} {d : Nat} {x q t ai b pa ql qh : Nat} {sg : Int32} {ov : Value} {S : qS} (hS : wf S) {f g : Nat} (hf : f < 4) (hg : g < 4) {v : Int32} (hv : ¬ v = 0) : Ct G yX2_foes cX2_foes 4 (some .int) (d + 5) 0 0 [.ref x, .int (nI f), .int (nI g), .int v] (hX x q t ai b pa sg ov :: (wS G q ql qh (S))) (jD (some (.int (1))) (hX x q t ai b pa sg ov :: (wS G q ql qh (foS S f g true)))) := by
  refine ct_of (by decide) (Nat.le_of_ble_eq_true rfl) (own := RX2) (nm := "foes") rfl rfl (lv := [some (.ref x), some (.int (nI f)), some (.int (nI g)), some (.int v)]) rfl ?_
  refine r_iload_n 0 dX2_foes_0 rfl ?_
  refine r_callSD (ws2 := [_, _, _, _]) (wr := [_, _, _, _]) 1 s_X2_83 dX2_foes_1 (c_isFam1 hf) rfl rfl [] [0, 1, 2, 3] rfl rfl rfl rfl (by decide) jRm_ok (Nat.le_of_ble_eq_true rfl) ⟨(Nat.le_of_ble_eq_true rfl), (Nat.le_of_ble_eq_true rfl)⟩ [0, 1, 2, 3] rfl rfl ?_
  refine r_if_eqF 4 14 dX2_foes_4 (by decide) (by decide) ?_
  refine r_iload_n 7 dX2_foes_7 rfl ?_
  refine r_callSD (ws2 := [_, _, _, _]) (wr := [_, _, _, _]) 8 s_X2_83 dX2_foes_8 (c_isFam1 hg) rfl rfl [] [0, 1, 2, 3] rfl rfl rfl rfl (by decide) jRm_ok (Nat.le_of_ble_eq_true rfl) ⟨(Nat.le_of_ble_eq_true rfl), (Nat.le_of_ble_eq_true rfl)⟩ [0, 1, 2, 3] rfl rfl ?_
  refine r_if_neT 11 16 dX2_foes_11 (by decide) (by decide) ?_
  refine r_aload_n 16 dX2_foes_16 rfl ?_
  refine r_get 17 f_X2_10 dX2_foes_17 0 rfl rfl ?_
  refine r_iload_n 20 dX2_foes_20 rfl ?_
  refine r_iload_n 21 dX2_foes_21 rfl ?_
  refine r_iload_n 22 dX2_foes_22 rfl ?_
  refine r_callVD (ws2 := [_, _, _, _]) (wr := [_]) 23 s_X2_86 dX2_foes_23 (q_setFoes1 hS hf hg hv) rfl rfl 0 rfl rfl rfl [1, 2, 3] [0] rfl rfl rfl rfl (by decide) jRm_ok (Nat.le_of_ble_eq_true rfl) ⟨(Nat.le_of_ble_eq_true rfl), (Nat.le_of_ble_eq_true rfl)⟩ [0, 1, 2, 3] rfl rfl ?_
  refine r_iconst (v := 1) 26 dX2_foes_26 (by decide) ?_
  exact r_iret 27 dX2_foes_27 rfl rfl (Nat.le_of_ble_eq_true rfl) (Nat.le_of_ble_eq_true rfl) (jd rfl)
set_option maxRecDepth 100000 in
set_option maxHeartbeats 400000 in
theorem h_foes0 {G : jG} {d : Nat} {x q t ai b pa ql qh : Nat} {sg : Int32} {ov : Value} {S : qS} (hS : wf S) {f g : Nat} (hf : f < 4) (hg : g < 4) : Ct G yX2_foes cX2_foes 4 (some .int) (d + 5) 0 0 [.ref x, .int (nI f), .int (nI g), .int 0] (hX x q t ai b pa sg ov :: (wS G q ql qh (S))) (jD (some (.int (1))) (hX x q t ai b pa sg ov :: (wS G q ql qh (foS S f g false)))) := by
  refine ct_of (by decide) (Nat.le_of_ble_eq_true rfl) (own := RX2) (nm := "foes") rfl rfl (lv := [some (.ref x), some (.int (nI f)), some (.int (nI g)), some (.int 0)]) rfl ?_
  refine r_iload_n 0 dX2_foes_0 rfl ?_
  refine r_callSD (ws2 := [_, _, _, _]) (wr := [_, _, _, _]) 1 s_X2_83 dX2_foes_1 (c_isFam1 hf) rfl rfl [] [0, 1, 2, 3] rfl rfl rfl rfl (by decide) jRm_ok (Nat.le_of_ble_eq_true rfl) ⟨(Nat.le_of_ble_eq_true rfl), (Nat.le_of_ble_eq_true rfl)⟩ [0, 1, 2, 3] rfl rfl ?_
  refine r_if_eqF 4 14 dX2_foes_4 (by decide) (by decide) ?_
  refine r_iload_n 7 dX2_foes_7 rfl ?_
  refine r_callSD (ws2 := [_, _, _, _]) (wr := [_, _, _, _]) 8 s_X2_83 dX2_foes_8 (c_isFam1 hg) rfl rfl [] [0, 1, 2, 3] rfl rfl rfl rfl (by decide) jRm_ok (Nat.le_of_ble_eq_true rfl) ⟨(Nat.le_of_ble_eq_true rfl), (Nat.le_of_ble_eq_true rfl)⟩ [0, 1, 2, 3] rfl rfl ?_
  refine r_if_neT 11 16 dX2_foes_11 (by decide) (by decide) ?_
  refine r_aload_n 16 dX2_foes_16 rfl ?_
  refine r_get 17 f_X2_10 dX2_foes_17 0 rfl rfl ?_
  refine r_iload_n 20 dX2_foes_20 rfl ?_
  refine r_iload_n 21 dX2_foes_21 rfl ?_
  refine r_iload_n 22 dX2_foes_22 rfl ?_
  refine r_callVD (ws2 := [_, _, _, _]) (wr := [_]) 23 s_X2_86 dX2_foes_23 (q_setFoes0 hS hf hg) rfl rfl 0 rfl rfl rfl [1, 2, 3] [0] rfl rfl rfl rfl (by decide) jRm_ok (Nat.le_of_ble_eq_true rfl) ⟨(Nat.le_of_ble_eq_true rfl), (Nat.le_of_ble_eq_true rfl)⟩ [0, 1, 2, 3] rfl rfl ?_
  refine r_iconst (v := 1) 26 dX2_foes_26 (by decide) ?_
  exact r_iret 27 dX2_foes_27 rfl rfl (Nat.le_of_ble_eq_true rfl) (Nat.le_of_ble_eq_true rfl) (jd rfl)
set_option maxRecDepth 100000 in
set_option maxHeartbeats 400000 in
theorem h_foesU {G : jG} {d : Nat} {x q t ai b pa ql qh : Nat} {sg : Int32} {ov : Value} {S : qS} {u v w : Int32} (h : ¬ ((0 ≤ u ∧ u ≤ 3) ∧ (0 ≤ v ∧ v ≤ 3))) : Ct G yX2_foes cX2_foes 4 (some .int) (d + 5) 0 0 [.ref x, .int u, .int v, .int w] (hX x q t ai b pa sg ov :: (wS G q ql qh (S))) (jD (some (.int (-1))) (hX x q t ai b pa sg ov :: (wS G q ql qh (S)))) := by
  refine ct_of (by decide) (Nat.le_of_ble_eq_true rfl) (own := RX2) (nm := "foes") rfl rfl (lv := [some (.ref x), some (.int u), some (.int v), some (.int w)]) rfl ?_
  refine r_iload_n 0 dX2_foes_0 rfl ?_
  refine r_callSD (ws2 := [_, _, _, _]) (wr := [_, _, _, _]) 1 s_X2_83 dX2_foes_1 (c_X2_isFamily) rfl rfl [] [0, 1, 2, 3] rfl rfl rfl rfl (by decide) jRm_ok (Nat.le_of_ble_eq_true rfl) ⟨(Nat.le_of_ble_eq_true rfl), (Nat.le_of_ble_eq_true rfl)⟩ [0, 1, 2, 3] rfl rfl ?_
  refine r_if_eqB 4 14 dX2_foes_4 (by decide) (fun c_4 => ?_) (fun c_4 => ?_)
  · -- 4T
    refine r_iconst (v := -1) 14 dX2_foes_14 (by decide) ?_
    exact r_iret 15 dX2_foes_15 rfl rfl (Nat.le_of_ble_eq_true rfl) (Nat.le_of_ble_eq_true rfl) (jd rfl)
  · -- 4F
    refine r_iload_n 7 dX2_foes_7 rfl ?_
    refine r_callSD (ws2 := [_, _, _, _]) (wr := [_, _, _, _]) 8 s_X2_83 dX2_foes_8 (c_X2_isFamily) rfl rfl [] [0, 1, 2, 3] rfl rfl rfl rfl (by decide) jRm_ok (Nat.le_of_ble_eq_true rfl) ⟨(Nat.le_of_ble_eq_true rfl), (Nat.le_of_ble_eq_true rfl)⟩ [0, 1, 2, 3] rfl rfl ?_
    refine r_if_neB 11 16 dX2_foes_11 (by decide) (fun c_11 => ?_) (fun c_11 => ?_)
    · -- 11T
      exact absurd ⟨c_4, c_11⟩ h
    · -- 11F
      refine r_iconst (v := -1) 14 dX2_foes_14 (by decide) ?_
      exact r_iret 15 dX2_foes_15 rfl rfl (Nat.le_of_ble_eq_true rfl) (Nat.le_of_ble_eq_true rfl) (jd rfl)
set_option maxRecDepth 100000 in
set_option maxHeartbeats 400000 in
theorem h_set0 {G : jG} {d : Nat} {x q t ai b pa ql qh : Nat} {sg : Int32} {ov : Value} {S : qS} {v : Nat} (hv : v ≤ 99) : Ct G yX2_set cX2_set 4 (some .int) (d + 2) 0 0 [.ref x, .int 0, .int (nI v)] (hX x q t ai b pa sg ov :: (wS G q ql qh (S))) (jD (some (.int (nI (seW S 0)))) (hX x q t ai b pa sg ov :: (wS G q ql qh (seS S 0 v)))) := by
  refine ct_of (by decide) (Nat.le_of_ble_eq_true rfl) (own := RX2) (nm := "set") rfl rfl (lv := [some (.ref x), some (.int 0), some (.int (nI v)), none]) rfl ?_
  refine r_iload_n 0 dX2_set_0 rfl ?_
  refine r_iconst (v := 0) 1 dX2_set_1 (by decide) ?_
  refine r_iconst (v := 2) 2 dX2_set_2 (by decide) ?_
  refine r_callSD (ws2 := [_, _, _, _]) (wr := [_, _, _, _]) 3 s_X2_46 dX2_set_3 (c_isW (by decide)) rfl rfl [] [0, 1, 2, 3] rfl rfl rfl rfl (by decide) jRm_ok (Nat.le_of_ble_eq_true rfl) ⟨(Nat.le_of_ble_eq_true rfl), (Nat.le_of_ble_eq_true rfl)⟩ [0, 1, 2, 3] rfl rfl ?_
  refine r_if_eqF 6 28 dX2_set_6 (by decide) (by decide) ?_
  refine r_iload_n 9 dX2_set_9 rfl ?_
  refine r_iconst (v := 0) 10 dX2_set_10 (by decide) ?_
  refine r_iload_n 11 dX2_set_11 rfl ?_
  refine r_iconst (v := 2) 12 dX2_set_12 (by decide) ?_
  refine r_icmp_neT 13 20 dX2_set_13 (by decide) (by decide) ?_
  refine r_bipush (v := 99) 20 dX2_set_20 (by decide) ?_
  refine r_callSD (ws2 := [_, _, _, _]) (wr := [_, _, _, _]) 22 s_X2_46 dX2_set_22 (c_isW (le_nI hv (by decide))) rfl rfl [] [0, 1, 2, 3] rfl rfl rfl rfl (by decide) jRm_ok (Nat.le_of_ble_eq_true rfl) ⟨(Nat.le_of_ble_eq_true rfl), (Nat.le_of_ble_eq_true rfl)⟩ [0, 1, 2, 3] rfl rfl ?_
  refine r_if_neT 25 31 dX2_set_25 (by decide) (by decide) ?_
  refine r_iload_n 31 dX2_set_31 rfl ?_
  refine r_if_neF 32 54 dX2_set_32 (by decide) (by decide) ?_
  refine r_aload_n 35 dX2_set_35 rfl ?_
  refine r_get 36 f_X2_10 dX2_set_36 0 rfl rfl ?_
  refine r_get 39 f_X2_90 dX2_set_39 1 rfl rfl ?_
  refine r_istore_n (lv2 := [_, _, _, _]) 42 dX2_set_42 (by decide) rfl rfl ?_
  refine r_aload_n 43 dX2_set_43 rfl ?_
  refine r_get 44 f_X2_10 dX2_set_44 0 rfl rfl ?_
  refine r_iload_n 47 dX2_set_47 rfl ?_
  refine r_put (ws2 := [_, (_, .inr (_, [_, _, _, _, _, _, _, _, _, _, _])), _, _]) 48 p_X2_90 dX2_set_48 1 rfl rfl rfl (Nat.le_of_ble_eq_true rfl) rfl ?_
  refine r_goto 51 94 dX2_set_51 (by decide) ?_
  refine r_iload_n 94 dX2_set_94 rfl ?_
  exact r_iret 95 dX2_set_95 rfl rfl (Nat.le_of_ble_eq_true rfl) (Nat.le_of_ble_eq_true rfl) (jd rfl)
set_option maxRecDepth 100000 in
set_option maxHeartbeats 400000 in
theorem h_setV0 {G : jG} {d : Nat} {x q t ai b pa ql qh : Nat} {sg : Int32} {ov : Value} {S : qS} {v : Int32} (hv : ¬ (0 ≤ v ∧ v ≤ 99)) : Ct G yX2_set cX2_set 4 (some .int) (d + 2) 0 0 [.ref x, .int 0, .int v] (hX x q t ai b pa sg ov :: (wS G q ql qh (S))) (jD (some (.int (-2))) (hX x q t ai b pa sg ov :: (wS G q ql qh (S)))) := by
  refine ct_of (by decide) (Nat.le_of_ble_eq_true rfl) (own := RX2) (nm := "set") rfl rfl (lv := [some (.ref x), some (.int 0), some (.int v), none]) rfl ?_
  refine r_iload_n 0 dX2_set_0 rfl ?_
  refine r_iconst (v := 0) 1 dX2_set_1 (by decide) ?_
  refine r_iconst (v := 2) 2 dX2_set_2 (by decide) ?_
  refine r_callSD (ws2 := [_, _, _, _]) (wr := [_, _, _, _]) 3 s_X2_46 dX2_set_3 (c_isW (by decide)) rfl rfl [] [0, 1, 2, 3] rfl rfl rfl rfl (by decide) jRm_ok (Nat.le_of_ble_eq_true rfl) ⟨(Nat.le_of_ble_eq_true rfl), (Nat.le_of_ble_eq_true rfl)⟩ [0, 1, 2, 3] rfl rfl ?_
  refine r_if_eqF 6 28 dX2_set_6 (by decide) (by decide) ?_
  refine r_iload_n 9 dX2_set_9 rfl ?_
  refine r_iconst (v := 0) 10 dX2_set_10 (by decide) ?_
  refine r_iload_n 11 dX2_set_11 rfl ?_
  refine r_iconst (v := 2) 12 dX2_set_12 (by decide) ?_
  refine r_icmp_neT 13 20 dX2_set_13 (by decide) (by decide) ?_
  refine r_bipush (v := 99) 20 dX2_set_20 (by decide) ?_
  refine r_callSD (ws2 := [_, _, _, _]) (wr := [_, _, _, _]) 22 s_X2_46 dX2_set_22 (c_isW0 hv) rfl rfl [] [0, 1, 2, 3] rfl rfl rfl rfl (by decide) jRm_ok (Nat.le_of_ble_eq_true rfl) ⟨(Nat.le_of_ble_eq_true rfl), (Nat.le_of_ble_eq_true rfl)⟩ [0, 1, 2, 3] rfl rfl ?_
  refine r_if_neF 25 31 dX2_set_25 (by decide) (by decide) ?_
  refine r_bipush (v := -2) 28 dX2_set_28 (by decide) ?_
  exact r_iret 30 dX2_set_30 rfl rfl (Nat.le_of_ble_eq_true rfl) (Nat.le_of_ble_eq_true rfl) (jd rfl)
set_option maxRecDepth 100000 in
set_option maxHeartbeats 400000 in
theorem h_set1 {G : jG} {d : Nat} {x q t ai b pa ql qh : Nat} {sg : Int32} {ov : Value} {S : qS} {v : Nat} (hv : v ≤ 99) : Ct G yX2_set cX2_set 4 (some .int) (d + 2) 0 0 [.ref x, .int 1, .int (nI v)] (hX x q t ai b pa sg ov :: (wS G q ql qh (S))) (jD (some (.int (nI (seW S 1)))) (hX x q t ai b pa sg ov :: (wS G q ql qh (seS S 1 v)))) := by
  refine ct_of (by decide) (Nat.le_of_ble_eq_true rfl) (own := RX2) (nm := "set") rfl rfl (lv := [some (.ref x), some (.int 1), some (.int (nI v)), none]) rfl ?_
  refine r_iload_n 0 dX2_set_0 rfl ?_
  refine r_iconst (v := 0) 1 dX2_set_1 (by decide) ?_
  refine r_iconst (v := 2) 2 dX2_set_2 (by decide) ?_
  refine r_callSD (ws2 := [_, _, _, _]) (wr := [_, _, _, _]) 3 s_X2_46 dX2_set_3 (c_isW (by decide)) rfl rfl [] [0, 1, 2, 3] rfl rfl rfl rfl (by decide) jRm_ok (Nat.le_of_ble_eq_true rfl) ⟨(Nat.le_of_ble_eq_true rfl), (Nat.le_of_ble_eq_true rfl)⟩ [0, 1, 2, 3] rfl rfl ?_
  refine r_if_eqF 6 28 dX2_set_6 (by decide) (by decide) ?_
  refine r_iload_n 9 dX2_set_9 rfl ?_
  refine r_iconst (v := 0) 10 dX2_set_10 (by decide) ?_
  refine r_iload_n 11 dX2_set_11 rfl ?_
  refine r_iconst (v := 2) 12 dX2_set_12 (by decide) ?_
  refine r_icmp_neT 13 20 dX2_set_13 (by decide) (by decide) ?_
  refine r_bipush (v := 99) 20 dX2_set_20 (by decide) ?_
  refine r_callSD (ws2 := [_, _, _, _]) (wr := [_, _, _, _]) 22 s_X2_46 dX2_set_22 (c_isW (le_nI hv (by decide))) rfl rfl [] [0, 1, 2, 3] rfl rfl rfl rfl (by decide) jRm_ok (Nat.le_of_ble_eq_true rfl) ⟨(Nat.le_of_ble_eq_true rfl), (Nat.le_of_ble_eq_true rfl)⟩ [0, 1, 2, 3] rfl rfl ?_
  refine r_if_neT 25 31 dX2_set_25 (by decide) (by decide) ?_
  refine r_iload_n 31 dX2_set_31 rfl ?_
  refine r_if_neT 32 54 dX2_set_32 (by decide) (by decide) ?_
  refine r_iload_n 54 dX2_set_54 rfl ?_
  refine r_iconst (v := 1) 55 dX2_set_55 (by decide) ?_
  refine r_icmp_neF 56 78 dX2_set_56 (by decide) (by decide) ?_
  refine r_aload_n 59 dX2_set_59 rfl ?_
  refine r_get 60 f_X2_10 dX2_set_60 0 rfl rfl ?_
  refine r_get 63 f_X2_93 dX2_set_63 1 rfl rfl ?_
  refine r_istore_n (lv2 := [_, _, _, _]) 66 dX2_set_66 (by decide) rfl rfl ?_
  refine r_aload_n 67 dX2_set_67 rfl ?_
  refine r_get 68 f_X2_10 dX2_set_68 0 rfl rfl ?_
  refine r_iload_n 71 dX2_set_71 rfl ?_
  refine r_put (ws2 := [_, (_, .inr (_, [_, _, _, _, _, _, _, _, _, _, _])), _, _]) 72 p_X2_93 dX2_set_72 1 rfl rfl rfl (Nat.le_of_ble_eq_true rfl) rfl ?_
  refine r_goto 75 94 dX2_set_75 (by decide) ?_
  refine r_iload_n 94 dX2_set_94 rfl ?_
  exact r_iret 95 dX2_set_95 rfl rfl (Nat.le_of_ble_eq_true rfl) (Nat.le_of_ble_eq_true rfl) (jd rfl)
set_option maxRecDepth 100000 in
set_option maxHeartbeats 400000 in
theorem h_setV1 {G : jG} {d : Nat} {x q t ai b pa ql qh : Nat} {sg : Int32} {ov : Value} {S : qS} {v : Int32} (hv : ¬ (0 ≤ v ∧ v ≤ 99)) : Ct G yX2_set cX2_set 4 (some .int) (d + 2) 0 0 [.ref x, .int 1, .int v] (hX x q t ai b pa sg ov :: (wS G q ql qh (S))) (jD (some (.int (-2))) (hX x q t ai b pa sg ov :: (wS G q ql qh (S)))) := by
  refine ct_of (by decide) (Nat.le_of_ble_eq_true rfl) (own := RX2) (nm := "set") rfl rfl (lv := [some (.ref x), some (.int 1), some (.int v), none]) rfl ?_
  refine r_iload_n 0 dX2_set_0 rfl ?_
  refine r_iconst (v := 0) 1 dX2_set_1 (by decide) ?_
  refine r_iconst (v := 2) 2 dX2_set_2 (by decide) ?_
  refine r_callSD (ws2 := [_, _, _, _]) (wr := [_, _, _, _]) 3 s_X2_46 dX2_set_3 (c_isW (by decide)) rfl rfl [] [0, 1, 2, 3] rfl rfl rfl rfl (by decide) jRm_ok (Nat.le_of_ble_eq_true rfl) ⟨(Nat.le_of_ble_eq_true rfl), (Nat.le_of_ble_eq_true rfl)⟩ [0, 1, 2, 3] rfl rfl ?_
  refine r_if_eqF 6 28 dX2_set_6 (by decide) (by decide) ?_
  refine r_iload_n 9 dX2_set_9 rfl ?_
  refine r_iconst (v := 0) 10 dX2_set_10 (by decide) ?_
  refine r_iload_n 11 dX2_set_11 rfl ?_
  refine r_iconst (v := 2) 12 dX2_set_12 (by decide) ?_
  refine r_icmp_neT 13 20 dX2_set_13 (by decide) (by decide) ?_
  refine r_bipush (v := 99) 20 dX2_set_20 (by decide) ?_
  refine r_callSD (ws2 := [_, _, _, _]) (wr := [_, _, _, _]) 22 s_X2_46 dX2_set_22 (c_isW0 hv) rfl rfl [] [0, 1, 2, 3] rfl rfl rfl rfl (by decide) jRm_ok (Nat.le_of_ble_eq_true rfl) ⟨(Nat.le_of_ble_eq_true rfl), (Nat.le_of_ble_eq_true rfl)⟩ [0, 1, 2, 3] rfl rfl ?_
  refine r_if_neF 25 31 dX2_set_25 (by decide) (by decide) ?_
  refine r_bipush (v := -2) 28 dX2_set_28 (by decide) ?_
  exact r_iret 30 dX2_set_30 rfl rfl (Nat.le_of_ble_eq_true rfl) (Nat.le_of_ble_eq_true rfl) (jd rfl)
set_option maxRecDepth 100000 in
set_option maxHeartbeats 400000 in
theorem h_set2 {G : jG} {d : Nat} {x q t ai b pa ql qh : Nat} {sg : Int32} {ov : Value} {S : qS} {v : Nat} (hv : v ≤ 4) : Ct G yX2_set cX2_set 4 (some .int) (d + 2) 0 0 [.ref x, .int 2, .int (nI v)] (hX x q t ai b pa sg ov :: (wS G q ql qh (S))) (jD (some (.int (nI (seW S 2)))) (hX x q t ai b pa sg ov :: (wS G q ql qh (seS S 2 v)))) := by
  refine ct_of (by decide) (Nat.le_of_ble_eq_true rfl) (own := RX2) (nm := "set") rfl rfl (lv := [some (.ref x), some (.int 2), some (.int (nI v)), none]) rfl ?_
  refine r_iload_n 0 dX2_set_0 rfl ?_
  refine r_iconst (v := 0) 1 dX2_set_1 (by decide) ?_
  refine r_iconst (v := 2) 2 dX2_set_2 (by decide) ?_
  refine r_callSD (ws2 := [_, _, _, _]) (wr := [_, _, _, _]) 3 s_X2_46 dX2_set_3 (c_isW (by decide)) rfl rfl [] [0, 1, 2, 3] rfl rfl rfl rfl (by decide) jRm_ok (Nat.le_of_ble_eq_true rfl) ⟨(Nat.le_of_ble_eq_true rfl), (Nat.le_of_ble_eq_true rfl)⟩ [0, 1, 2, 3] rfl rfl ?_
  refine r_if_eqF 6 28 dX2_set_6 (by decide) (by decide) ?_
  refine r_iload_n 9 dX2_set_9 rfl ?_
  refine r_iconst (v := 0) 10 dX2_set_10 (by decide) ?_
  refine r_iload_n 11 dX2_set_11 rfl ?_
  refine r_iconst (v := 2) 12 dX2_set_12 (by decide) ?_
  refine r_icmp_neF 13 20 dX2_set_13 (by decide) (by decide) ?_
  refine r_iconst (v := 4) 16 dX2_set_16 (by decide) ?_
  refine r_goto 17 22 dX2_set_17 (by decide) ?_
  refine r_callSD (ws2 := [_, _, _, _]) (wr := [_, _, _, _]) 22 s_X2_46 dX2_set_22 (c_isW (le_nI hv (by decide))) rfl rfl [] [0, 1, 2, 3] rfl rfl rfl rfl (by decide) jRm_ok (Nat.le_of_ble_eq_true rfl) ⟨(Nat.le_of_ble_eq_true rfl), (Nat.le_of_ble_eq_true rfl)⟩ [0, 1, 2, 3] rfl rfl ?_
  refine r_if_neT 25 31 dX2_set_25 (by decide) (by decide) ?_
  refine r_iload_n 31 dX2_set_31 rfl ?_
  refine r_if_neT 32 54 dX2_set_32 (by decide) (by decide) ?_
  refine r_iload_n 54 dX2_set_54 rfl ?_
  refine r_iconst (v := 1) 55 dX2_set_55 (by decide) ?_
  refine r_icmp_neT 56 78 dX2_set_56 (by decide) (by decide) ?_
  refine r_aload_n 78 dX2_set_78 rfl ?_
  refine r_get 79 f_X2_10 dX2_set_79 0 rfl rfl ?_
  refine r_get 82 f_X2_96 dX2_set_82 1 rfl rfl ?_
  refine r_istore_n (lv2 := [_, _, _, _]) 85 dX2_set_85 (by decide) rfl rfl ?_
  refine r_aload_n 86 dX2_set_86 rfl ?_
  refine r_get 87 f_X2_10 dX2_set_87 0 rfl rfl ?_
  refine r_iload_n 90 dX2_set_90 rfl ?_
  refine r_put (ws2 := [_, (_, .inr (_, [_, _, _, _, _, _, _, _, _, _, _])), _, _]) 91 p_X2_96 dX2_set_91 1 rfl rfl rfl (Nat.le_of_ble_eq_true rfl) rfl ?_
  refine r_iload_n 94 dX2_set_94 rfl ?_
  exact r_iret 95 dX2_set_95 rfl rfl (Nat.le_of_ble_eq_true rfl) (Nat.le_of_ble_eq_true rfl) (jd rfl)
set_option maxRecDepth 100000 in
set_option maxHeartbeats 400000 in
theorem h_setV2 {G : jG} {d : Nat} {x q t ai b pa ql qh : Nat} {sg : Int32} {ov : Value} {S : qS} {v : Int32} (hv : ¬ (0 ≤ v ∧ v ≤ 4)) : Ct G yX2_set cX2_set 4 (some .int) (d + 2) 0 0 [.ref x, .int 2, .int v] (hX x q t ai b pa sg ov :: (wS G q ql qh (S))) (jD (some (.int (-2))) (hX x q t ai b pa sg ov :: (wS G q ql qh (S)))) := by
  refine ct_of (by decide) (Nat.le_of_ble_eq_true rfl) (own := RX2) (nm := "set") rfl rfl (lv := [some (.ref x), some (.int 2), some (.int v), none]) rfl ?_
  refine r_iload_n 0 dX2_set_0 rfl ?_
  refine r_iconst (v := 0) 1 dX2_set_1 (by decide) ?_
  refine r_iconst (v := 2) 2 dX2_set_2 (by decide) ?_
  refine r_callSD (ws2 := [_, _, _, _]) (wr := [_, _, _, _]) 3 s_X2_46 dX2_set_3 (c_isW (by decide)) rfl rfl [] [0, 1, 2, 3] rfl rfl rfl rfl (by decide) jRm_ok (Nat.le_of_ble_eq_true rfl) ⟨(Nat.le_of_ble_eq_true rfl), (Nat.le_of_ble_eq_true rfl)⟩ [0, 1, 2, 3] rfl rfl ?_
  refine r_if_eqF 6 28 dX2_set_6 (by decide) (by decide) ?_
  refine r_iload_n 9 dX2_set_9 rfl ?_
  refine r_iconst (v := 0) 10 dX2_set_10 (by decide) ?_
  refine r_iload_n 11 dX2_set_11 rfl ?_
  refine r_iconst (v := 2) 12 dX2_set_12 (by decide) ?_
  refine r_icmp_neF 13 20 dX2_set_13 (by decide) (by decide) ?_
  refine r_iconst (v := 4) 16 dX2_set_16 (by decide) ?_
  refine r_goto 17 22 dX2_set_17 (by decide) ?_
  refine r_callSD (ws2 := [_, _, _, _]) (wr := [_, _, _, _]) 22 s_X2_46 dX2_set_22 (c_isW0 hv) rfl rfl [] [0, 1, 2, 3] rfl rfl rfl rfl (by decide) jRm_ok (Nat.le_of_ble_eq_true rfl) ⟨(Nat.le_of_ble_eq_true rfl), (Nat.le_of_ble_eq_true rfl)⟩ [0, 1, 2, 3] rfl rfl ?_
  refine r_if_neF 25 31 dX2_set_25 (by decide) (by decide) ?_
  refine r_bipush (v := -2) 28 dX2_set_28 (by decide) ?_
  exact r_iret 30 dX2_set_30 rfl rfl (Nat.le_of_ble_eq_true rfl) (Nat.le_of_ble_eq_true rfl) (jd rfl)
set_option maxRecDepth 100000 in
set_option maxHeartbeats 400000 in
theorem h_setX {G : jG} {d : Nat} {x q t ai b pa ql qh : Nat} {sg : Int32} {ov : Value} {S : qS} {u v : Int32} (h : ¬ (0 ≤ u ∧ u ≤ 2)) : Ct G yX2_set cX2_set 4 (some .int) (d + 2) 0 0 [.ref x, .int u, .int v] (hX x q t ai b pa sg ov :: (wS G q ql qh (S))) (jD (some (.int (-2))) (hX x q t ai b pa sg ov :: (wS G q ql qh (S)))) := by
  refine ct_of (by decide) (Nat.le_of_ble_eq_true rfl) (own := RX2) (nm := "set") rfl rfl (lv := [some (.ref x), some (.int u), some (.int v), none]) rfl ?_
  refine r_iload_n 0 dX2_set_0 rfl ?_
  refine r_iconst (v := 0) 1 dX2_set_1 (by decide) ?_
  refine r_iconst (v := 2) 2 dX2_set_2 (by decide) ?_
  refine r_callSD (ws2 := [_, _, _, _]) (wr := [_, _, _, _]) 3 s_X2_46 dX2_set_3 (c_isW0 h) rfl rfl [] [0, 1, 2, 3] rfl rfl rfl rfl (by decide) jRm_ok (Nat.le_of_ble_eq_true rfl) ⟨(Nat.le_of_ble_eq_true rfl), (Nat.le_of_ble_eq_true rfl)⟩ [0, 1, 2, 3] rfl rfl ?_
  refine r_if_eqT 6 28 dX2_set_6 (by decide) (by decide) ?_
  refine r_bipush (v := -2) 28 dX2_set_28 (by decide) ?_
  exact r_iret 30 dX2_set_30 rfl rfl (Nat.le_of_ble_eq_true rfl) (Nat.le_of_ble_eq_true rfl) (jd rfl)
set_option maxRecDepth 100000 in
set_option maxHeartbeats 400000 in
theorem h_sewU {G : jG} {d : Nat} {x q t ai b pa ql qh : Nat} {sg : Int32} {ov : Value} {S : qS} {u v : Int32} (h : ¬ (plB S u = true ∧ plB S v = true)) : Ct G yX2_sew cX2_sew 3 (some .int) (d + 7) 0 0 [.ref x, .int u, .int v] (hX x q t ai b pa sg ov :: (wS G q ql qh (S))) (jD (some (.int (-1))) (hX x q t ai b pa sg ov :: (wS G q ql qh (S)))) := by
  refine ct_of (by decide) (Nat.le_of_ble_eq_true rfl) (own := RX2) (nm := "sew") rfl rfl (lv := [some (.ref x), some (.int u), some (.int v)]) rfl ?_
  refine r_aload_n 0 dX2_sew_0 rfl ?_
  refine r_get 1 f_X2_10 dX2_sew_1 0 rfl rfl ?_
  refine r_iload_n 4 dX2_sew_4 rfl ?_
  refine r_callVD (ws2 := [_, _, _, _]) (wr := [_]) 5 s_X2_76 dX2_sew_5 (c_X1_isPlace) rfl rfl 0 rfl rfl rfl [1, 2, 3] [0] rfl rfl rfl rfl (by decide) jRm_ok (Nat.le_of_ble_eq_true rfl) ⟨(Nat.le_of_ble_eq_true rfl), (Nat.le_of_ble_eq_true rfl)⟩ [0, 1, 2, 3] rfl rfl ?_
  refine r_if_eqB 8 22 dX2_sew_8 (by decide) (fun c_8 => ?_) (fun c_8 => ?_)
  · -- 8T
    refine r_iconst (v := -1) 22 dX2_sew_22 (by decide) ?_
    exact r_iret 23 dX2_sew_23 rfl rfl (Nat.le_of_ble_eq_true rfl) (Nat.le_of_ble_eq_true rfl) (jd rfl)
  · -- 8F
    refine r_aload_n 11 dX2_sew_11 rfl ?_
    refine r_get 12 f_X2_10 dX2_sew_12 0 rfl rfl ?_
    refine r_iload_n 15 dX2_sew_15 rfl ?_
    refine r_callVD (ws2 := [_, _, _, _]) (wr := [_]) 16 s_X2_76 dX2_sew_16 (c_X1_isPlace) rfl rfl 0 rfl rfl rfl [1, 2, 3] [0] rfl rfl rfl rfl (by decide) jRm_ok (Nat.le_of_ble_eq_true rfl) ⟨(Nat.le_of_ble_eq_true rfl), (Nat.le_of_ble_eq_true rfl)⟩ [0, 1, 2, 3] rfl rfl ?_
    refine r_if_neB 19 24 dX2_sew_19 (by decide) (fun c_19 => ?_) (fun c_19 => ?_)
    · -- 19T
      exact absurd ⟨c_8, c_19⟩ h
    · -- 19F
      refine r_iconst (v := -1) 22 dX2_sew_22 (by decide) ?_
      exact r_iret 23 dX2_sew_23 rfl rfl (Nat.le_of_ble_eq_true rfl) (Nat.le_of_ble_eq_true rfl) (jd rfl)
set_option maxRecDepth 100000 in
set_option maxHeartbeats 400000 in
theorem h_unpickU {G : jG} {d : Nat} {x q t ai b pa ql qh : Nat} {sg : Int32} {ov : Value} {S : qS} {u v : Int32} (h : ¬ (plB S u = true ∧ plB S v = true)) : Ct G yX2_unpick cX2_unpick 3 (some .int) (d + 7) 0 0 [.ref x, .int u, .int v] (hX x q t ai b pa sg ov :: (wS G q ql qh (S))) (jD (some (.int (-1))) (hX x q t ai b pa sg ov :: (wS G q ql qh (S)))) := by
  refine ct_of (by decide) (Nat.le_of_ble_eq_true rfl) (own := RX2) (nm := "unpick") rfl rfl (lv := [some (.ref x), some (.int u), some (.int v)]) rfl ?_
  refine r_aload_n 0 dX2_unpick_0 rfl ?_
  refine r_get 1 f_X2_10 dX2_unpick_1 0 rfl rfl ?_
  refine r_iload_n 4 dX2_unpick_4 rfl ?_
  refine r_callVD (ws2 := [_, _, _, _]) (wr := [_]) 5 s_X2_76 dX2_unpick_5 (c_X1_isPlace) rfl rfl 0 rfl rfl rfl [1, 2, 3] [0] rfl rfl rfl rfl (by decide) jRm_ok (Nat.le_of_ble_eq_true rfl) ⟨(Nat.le_of_ble_eq_true rfl), (Nat.le_of_ble_eq_true rfl)⟩ [0, 1, 2, 3] rfl rfl ?_
  refine r_if_eqB 8 22 dX2_unpick_8 (by decide) (fun c_8 => ?_) (fun c_8 => ?_)
  · -- 8T
    refine r_iconst (v := -1) 22 dX2_unpick_22 (by decide) ?_
    exact r_iret 23 dX2_unpick_23 rfl rfl (Nat.le_of_ble_eq_true rfl) (Nat.le_of_ble_eq_true rfl) (jd rfl)
  · -- 8F
    refine r_aload_n 11 dX2_unpick_11 rfl ?_
    refine r_get 12 f_X2_10 dX2_unpick_12 0 rfl rfl ?_
    refine r_iload_n 15 dX2_unpick_15 rfl ?_
    refine r_callVD (ws2 := [_, _, _, _]) (wr := [_]) 16 s_X2_76 dX2_unpick_16 (c_X1_isPlace) rfl rfl 0 rfl rfl rfl [1, 2, 3] [0] rfl rfl rfl rfl (by decide) jRm_ok (Nat.le_of_ble_eq_true rfl) ⟨(Nat.le_of_ble_eq_true rfl), (Nat.le_of_ble_eq_true rfl)⟩ [0, 1, 2, 3] rfl rfl ?_
    refine r_if_neB 19 24 dX2_unpick_19 (by decide) (fun c_19 => ?_) (fun c_19 => ?_)
    · -- 19T
      exact absurd ⟨c_8, c_19⟩ h
    · -- 19F
      refine r_iconst (v := -1) 22 dX2_unpick_22 (by decide) ?_
      exact r_iret 23 dX2_unpick_23 rfl rfl (Nat.le_of_ble_eq_true rfl) (Nat.le_of_ble_eq_true rfl) (jd rfl)
set_option maxRecDepth 100000 in
set_option maxHeartbeats 400000 in
theorem h_sewS {G : jG} {d : Nat} {x q t ai b pa ql qh : Nat} {sg : Int32} {ov : Value} {S : qS} (hS : wf S) {p r : Nat} (hp : p < sP S) (hr : r < sP S) (h : ¬ (seB S p r = true ∧ sW S p r = false)) : Ct G yX2_sew cX2_sew 3 (some .int) (d + 7) 0 0 [.ref x, .int (nI p), .int (nI r)] (hX x q t ai b pa sg ov :: (wS G q ql qh (S))) (jD (some (.int (-3))) (hX x q t ai b pa sg ov :: (wS G q ql qh (S)))) := by
  refine ct_of (by decide) (Nat.le_of_ble_eq_true rfl) (own := RX2) (nm := "sew") rfl rfl (lv := [some (.ref x), some (.int (nI p)), some (.int (nI r))]) rfl ?_
  have h16 := hS.p16
  refine r_aload_n 0 dX2_sew_0 rfl ?_
  refine r_get 1 f_X2_10 dX2_sew_1 0 rfl rfl ?_
  refine r_iload_n 4 dX2_sew_4 rfl ?_
  refine r_callVD (ws2 := [_, _, _, _]) (wr := [_]) 5 s_X2_76 dX2_sew_5 (c_X1_isPlace) rfl rfl 0 rfl rfl rfl [1, 2, 3] [0] rfl rfl rfl rfl (by decide) jRm_ok (Nat.le_of_ble_eq_true rfl) ⟨(Nat.le_of_ble_eq_true rfl), (Nat.le_of_ble_eq_true rfl)⟩ [0, 1, 2, 3] rfl rfl ?_
  refine r_if_eqB 8 22 dX2_sew_8 (by decide) (fun c_8 => ?_) (fun c_8 => ?_)
  · -- 8T
    exact absurd (plB_of hS hp) c_8
  · -- 8F
    refine r_aload_n 11 dX2_sew_11 rfl ?_
    refine r_get 12 f_X2_10 dX2_sew_12 0 rfl rfl ?_
    refine r_iload_n 15 dX2_sew_15 rfl ?_
    refine r_callVD (ws2 := [_, _, _, _]) (wr := [_]) 16 s_X2_76 dX2_sew_16 (c_X1_isPlace) rfl rfl 0 rfl rfl rfl [1, 2, 3] [0] rfl rfl rfl rfl (by decide) jRm_ok (Nat.le_of_ble_eq_true rfl) ⟨(Nat.le_of_ble_eq_true rfl), (Nat.le_of_ble_eq_true rfl)⟩ [0, 1, 2, 3] rfl rfl ?_
    refine r_if_neB 19 24 dX2_sew_19 (by decide) (fun c_19 => ?_) (fun c_19 => ?_)
    · -- 19T
      refine r_aload_n 24 dX2_sew_24 rfl ?_
      refine r_get 25 f_X2_10 dX2_sew_25 0 rfl rfl ?_
      refine r_iload_n 28 dX2_sew_28 rfl ?_
      refine r_iload_n 29 dX2_sew_29 rfl ?_
      refine r_callVD (ws2 := [_, _, _, _]) (wr := [_]) 30 s_X2_99 dX2_sew_30 (c_X1_isSeam hS (show p < 16 by omega) (show r < 16 by omega)) rfl rfl 0 rfl rfl rfl [1, 2, 3] [0] rfl rfl rfl rfl (by decide) jRm_ok (Nat.le_of_ble_eq_true rfl) ⟨(Nat.le_of_ble_eq_true rfl), (Nat.le_of_ble_eq_true rfl)⟩ [0, 1, 2, 3] rfl rfl ?_
      refine r_if_eqB 33 48 dX2_sew_33 (by decide) (fun c_33 => ?_) (fun c_33 => ?_)
      · -- 33T
        refine r_bipush (v := -3) 48 dX2_sew_48 (by decide) ?_
        exact r_iret 50 dX2_sew_50 rfl rfl (Nat.le_of_ble_eq_true rfl) (Nat.le_of_ble_eq_true rfl) (jd rfl)
      · -- 33F
        refine r_aload_n 36 dX2_sew_36 rfl ?_
        refine r_get 37 f_X2_10 dX2_sew_37 0 rfl rfl ?_
        refine r_iload_n 40 dX2_sew_40 rfl ?_
        refine r_iload_n 41 dX2_sew_41 rfl ?_
        refine r_callVD (ws2 := [_, _, _, _]) (wr := [_]) 42 s_X2_103 dX2_sew_42 (c_X1_isSewn hS (show p < 16 by omega) (show r < 16 by omega)) rfl rfl 0 rfl rfl rfl [1, 2, 3] [0] rfl rfl rfl rfl (by decide) jRm_ok (Nat.le_of_ble_eq_true rfl) ⟨(Nat.le_of_ble_eq_true rfl), (Nat.le_of_ble_eq_true rfl)⟩ [0, 1, 2, 3] rfl rfl ?_
        refine r_if_eqB 45 51 dX2_sew_45 (by decide) (fun c_45 => ?_) (fun c_45 => ?_)
        · -- 45T
          exact absurd ⟨c_33, bF c_45⟩ h
        · -- 45F
          refine r_bipush (v := -3) 48 dX2_sew_48 (by decide) ?_
          exact r_iret 50 dX2_sew_50 rfl rfl (Nat.le_of_ble_eq_true rfl) (Nat.le_of_ble_eq_true rfl) (jd rfl)
    · -- 19F
      exact absurd (plB_of hS hr) c_19
set_option maxRecDepth 100000 in
set_option maxHeartbeats 400000 in
theorem h_sewN {G : jG} {d : Nat} {x q t ai b pa ql qh : Nat} {sg : Int32} {ov : Value} {S : qS} (hS : wf S) {p r : Nat} (hp : p < sP S) (hr : r < sP S) (h : seB S p r = true) (hw : sW S p r = false) (he : sE S (sF S p) (sF S r) = true) : Ct G yX2_sew cX2_sew 3 (some .int) (d + 7) 0 0 [.ref x, .int (nI p), .int (nI r)] (hX x q t ai b pa sg ov :: (wS G q ql qh (S))) (jD (some (.int (-5))) (hX x q t ai b pa sg ov :: (wS G q ql qh (S)))) := by
  refine ct_of (by decide) (Nat.le_of_ble_eq_true rfl) (own := RX2) (nm := "sew") rfl rfl (lv := [some (.ref x), some (.int (nI p)), some (.int (nI r))]) rfl ?_
  have h16 := hS.p16
  obtain ⟨hn, hqp, hqr⟩ := seB_iff.mp h
  have hfp := sqB_iff.mp hqp
  have hfr := sqB_iff.mp hqr
  refine r_aload_n 0 dX2_sew_0 rfl ?_
  refine r_get 1 f_X2_10 dX2_sew_1 0 rfl rfl ?_
  refine r_iload_n 4 dX2_sew_4 rfl ?_
  refine r_callVD (ws2 := [_, _, _, _]) (wr := [_]) 5 s_X2_76 dX2_sew_5 (c_X1_isPlace) rfl rfl 0 rfl rfl rfl [1, 2, 3] [0] rfl rfl rfl rfl (by decide) jRm_ok (Nat.le_of_ble_eq_true rfl) ⟨(Nat.le_of_ble_eq_true rfl), (Nat.le_of_ble_eq_true rfl)⟩ [0, 1, 2, 3] rfl rfl ?_
  refine r_if_eqB 8 22 dX2_sew_8 (by decide) (fun c_8 => ?_) (fun c_8 => ?_)
  · -- 8T
    exact absurd (plB_of hS hp) c_8
  · -- 8F
    refine r_aload_n 11 dX2_sew_11 rfl ?_
    refine r_get 12 f_X2_10 dX2_sew_12 0 rfl rfl ?_
    refine r_iload_n 15 dX2_sew_15 rfl ?_
    refine r_callVD (ws2 := [_, _, _, _]) (wr := [_]) 16 s_X2_76 dX2_sew_16 (c_X1_isPlace) rfl rfl 0 rfl rfl rfl [1, 2, 3] [0] rfl rfl rfl rfl (by decide) jRm_ok (Nat.le_of_ble_eq_true rfl) ⟨(Nat.le_of_ble_eq_true rfl), (Nat.le_of_ble_eq_true rfl)⟩ [0, 1, 2, 3] rfl rfl ?_
    refine r_if_neB 19 24 dX2_sew_19 (by decide) (fun c_19 => ?_) (fun c_19 => ?_)
    · -- 19T
      refine r_aload_n 24 dX2_sew_24 rfl ?_
      refine r_get 25 f_X2_10 dX2_sew_25 0 rfl rfl ?_
      refine r_iload_n 28 dX2_sew_28 rfl ?_
      refine r_iload_n 29 dX2_sew_29 rfl ?_
      refine r_callVD (ws2 := [_, _, _, _]) (wr := [_]) 30 s_X2_99 dX2_sew_30 (c_X1_isSeam hS (show p < 16 by omega) (show r < 16 by omega)) rfl rfl 0 rfl rfl rfl [1, 2, 3] [0] rfl rfl rfl rfl (by decide) jRm_ok (Nat.le_of_ble_eq_true rfl) ⟨(Nat.le_of_ble_eq_true rfl), (Nat.le_of_ble_eq_true rfl)⟩ [0, 1, 2, 3] rfl rfl ?_
      refine r_if_eqB 33 48 dX2_sew_33 (by decide) (fun c_33 => ?_) (fun c_33 => ?_)
      · -- 33T
        exact absurd h c_33
      · -- 33F
        refine r_aload_n 36 dX2_sew_36 rfl ?_
        refine r_get 37 f_X2_10 dX2_sew_37 0 rfl rfl ?_
        refine r_iload_n 40 dX2_sew_40 rfl ?_
        refine r_iload_n 41 dX2_sew_41 rfl ?_
        refine r_callVD (ws2 := [_, _, _, _]) (wr := [_]) 42 s_X2_103 dX2_sew_42 (c_X1_isSewn hS (show p < 16 by omega) (show r < 16 by omega)) rfl rfl 0 rfl rfl rfl [1, 2, 3] [0] rfl rfl rfl rfl (by decide) jRm_ok (Nat.le_of_ble_eq_true rfl) ⟨(Nat.le_of_ble_eq_true rfl), (Nat.le_of_ble_eq_true rfl)⟩ [0, 1, 2, 3] rfl rfl ?_
        refine r_if_eqB 45 51 dX2_sew_45 (by decide) (fun c_45 => ?_) (fun c_45 => ?_)
        · -- 45T
          refine r_aload_n 51 dX2_sew_51 rfl ?_
          refine r_get 52 f_X2_10 dX2_sew_52 0 rfl rfl ?_
          refine r_iload_n 55 dX2_sew_55 rfl ?_
          refine r_iload_n 56 dX2_sew_56 rfl ?_
          refine r_callVD (ws2 := [_, _, _, _]) (wr := [_]) 57 s_X2_106 dX2_sew_57 (c_X1_isSeamOfFoes (show p < 16 by omega) (show r < 16 by omega) hfp hfr) rfl rfl 0 rfl rfl rfl [1, 2, 3] [0] rfl rfl rfl rfl (by decide) jRm_ok (Nat.le_of_ble_eq_true rfl) ⟨(Nat.le_of_ble_eq_true rfl), (Nat.le_of_ble_eq_true rfl)⟩ [0, 1, 2, 3] rfl rfl ?_
          refine r_if_eqB 60 66 dX2_sew_60 (by decide) (fun c_60 => ?_) (fun c_60 => ?_)
          · -- 60T
            exact absurd he c_60
          · -- 60F
            refine r_bipush (v := -5) 63 dX2_sew_63 (by decide) ?_
            exact r_iret 65 dX2_sew_65 rfl rfl (Nat.le_of_ble_eq_true rfl) (Nat.le_of_ble_eq_true rfl) (jd rfl)
        · -- 45F
          exact absurd (hw.symm.trans c_45) (by decide)
    · -- 19F
      exact absurd (plB_of hS hr) c_19
set_option maxRecDepth 100000 in
set_option maxHeartbeats 400000 in
theorem h_sew1 {G : jG} {d : Nat} {x q t ai b pa ql qh : Nat} {sg : Int32} {ov : Value} {S : qS} (hS : wf S) {p r : Nat} (hp : p < sP S) (hr : r < sP S) (h : seB S p r = true) (hw : sW S p r = false) (he : sE S (sF S p) (sF S r) = false) : Ct G yX2_sew cX2_sew 3 (some .int) (d + 7) 0 0 [.ref x, .int (nI p), .int (nI r)] (hX x q t ai b pa sg ov :: (wS G q ql qh (S))) (jD (some (.int (nI (thN S p r)))) (hX x q t ai b pa sg ov :: (wS G q ql qh (sSetW S (joW S p r))))) := by
  refine ct_of (by decide) (Nat.le_of_ble_eq_true rfl) (own := RX2) (nm := "sew") rfl rfl (lv := [some (.ref x), some (.int (nI p)), some (.int (nI r))]) rfl ?_
  have h16 := hS.p16
  obtain ⟨hn, hqp, hqr⟩ := seB_iff.mp h
  have hfp := sqB_iff.mp hqp
  have hfr := sqB_iff.mp hqr
  refine r_aload_n 0 dX2_sew_0 rfl ?_
  refine r_get 1 f_X2_10 dX2_sew_1 0 rfl rfl ?_
  refine r_iload_n 4 dX2_sew_4 rfl ?_
  refine r_callVD (ws2 := [_, _, _, _]) (wr := [_]) 5 s_X2_76 dX2_sew_5 (c_X1_isPlace) rfl rfl 0 rfl rfl rfl [1, 2, 3] [0] rfl rfl rfl rfl (by decide) jRm_ok (Nat.le_of_ble_eq_true rfl) ⟨(Nat.le_of_ble_eq_true rfl), (Nat.le_of_ble_eq_true rfl)⟩ [0, 1, 2, 3] rfl rfl ?_
  refine r_if_eqB 8 22 dX2_sew_8 (by decide) (fun c_8 => ?_) (fun c_8 => ?_)
  · -- 8T
    exact absurd (plB_of hS hp) c_8
  · -- 8F
    refine r_aload_n 11 dX2_sew_11 rfl ?_
    refine r_get 12 f_X2_10 dX2_sew_12 0 rfl rfl ?_
    refine r_iload_n 15 dX2_sew_15 rfl ?_
    refine r_callVD (ws2 := [_, _, _, _]) (wr := [_]) 16 s_X2_76 dX2_sew_16 (c_X1_isPlace) rfl rfl 0 rfl rfl rfl [1, 2, 3] [0] rfl rfl rfl rfl (by decide) jRm_ok (Nat.le_of_ble_eq_true rfl) ⟨(Nat.le_of_ble_eq_true rfl), (Nat.le_of_ble_eq_true rfl)⟩ [0, 1, 2, 3] rfl rfl ?_
    refine r_if_neB 19 24 dX2_sew_19 (by decide) (fun c_19 => ?_) (fun c_19 => ?_)
    · -- 19T
      refine r_aload_n 24 dX2_sew_24 rfl ?_
      refine r_get 25 f_X2_10 dX2_sew_25 0 rfl rfl ?_
      refine r_iload_n 28 dX2_sew_28 rfl ?_
      refine r_iload_n 29 dX2_sew_29 rfl ?_
      refine r_callVD (ws2 := [_, _, _, _]) (wr := [_]) 30 s_X2_99 dX2_sew_30 (c_X1_isSeam hS (show p < 16 by omega) (show r < 16 by omega)) rfl rfl 0 rfl rfl rfl [1, 2, 3] [0] rfl rfl rfl rfl (by decide) jRm_ok (Nat.le_of_ble_eq_true rfl) ⟨(Nat.le_of_ble_eq_true rfl), (Nat.le_of_ble_eq_true rfl)⟩ [0, 1, 2, 3] rfl rfl ?_
      refine r_if_eqB 33 48 dX2_sew_33 (by decide) (fun c_33 => ?_) (fun c_33 => ?_)
      · -- 33T
        exact absurd h c_33
      · -- 33F
        refine r_aload_n 36 dX2_sew_36 rfl ?_
        refine r_get 37 f_X2_10 dX2_sew_37 0 rfl rfl ?_
        refine r_iload_n 40 dX2_sew_40 rfl ?_
        refine r_iload_n 41 dX2_sew_41 rfl ?_
        refine r_callVD (ws2 := [_, _, _, _]) (wr := [_]) 42 s_X2_103 dX2_sew_42 (c_X1_isSewn hS (show p < 16 by omega) (show r < 16 by omega)) rfl rfl 0 rfl rfl rfl [1, 2, 3] [0] rfl rfl rfl rfl (by decide) jRm_ok (Nat.le_of_ble_eq_true rfl) ⟨(Nat.le_of_ble_eq_true rfl), (Nat.le_of_ble_eq_true rfl)⟩ [0, 1, 2, 3] rfl rfl ?_
        refine r_if_eqB 45 51 dX2_sew_45 (by decide) (fun c_45 => ?_) (fun c_45 => ?_)
        · -- 45T
          refine r_aload_n 51 dX2_sew_51 rfl ?_
          refine r_get 52 f_X2_10 dX2_sew_52 0 rfl rfl ?_
          refine r_iload_n 55 dX2_sew_55 rfl ?_
          refine r_iload_n 56 dX2_sew_56 rfl ?_
          refine r_callVD (ws2 := [_, _, _, _]) (wr := [_]) 57 s_X2_106 dX2_sew_57 (c_X1_isSeamOfFoes (show p < 16 by omega) (show r < 16 by omega) hfp hfr) rfl rfl 0 rfl rfl rfl [1, 2, 3] [0] rfl rfl rfl rfl (by decide) jRm_ok (Nat.le_of_ble_eq_true rfl) ⟨(Nat.le_of_ble_eq_true rfl), (Nat.le_of_ble_eq_true rfl)⟩ [0, 1, 2, 3] rfl rfl ?_
          refine r_if_eqB 60 66 dX2_sew_60 (by decide) (fun c_60 => ?_) (fun c_60 => ?_)
          · -- 60T
            refine r_aload_n 66 dX2_sew_66 rfl ?_
            refine r_get 67 f_X2_10 dX2_sew_67 0 rfl rfl ?_
            refine r_iload_n 70 dX2_sew_70 rfl ?_
            refine r_iload_n 71 dX2_sew_71 rfl ?_
            refine r_callVD (ws2 := [_, _, _, _]) (wr := [_]) 72 s_X2_109 dX2_sew_72 (c_X1_join hS (show p < 16 by omega) (show r < 16 by omega) hn) rfl rfl 0 rfl rfl rfl [1, 2, 3] [0] rfl rfl rfl rfl (by decide) jRm_ok (Nat.le_of_ble_eq_true rfl) ⟨(Nat.le_of_ble_eq_true rfl), (Nat.le_of_ble_eq_true rfl)⟩ [0, 1, 2, 3] rfl rfl ?_
            refine r_aload_n 75 dX2_sew_75 rfl ?_
            refine r_get 76 f_X2_10 dX2_sew_76 0 rfl rfl ?_
            refine r_iload_n 79 dX2_sew_79 rfl ?_
            refine r_iload_n 80 dX2_sew_80 rfl ?_
            refine r_callVD (ws2 := [_, _, _, _]) (wr := [_]) 81 s_X2_112 dX2_sew_81 (c_X1_threadOf (S := sSetW S (joW S p r)) (wf_jo hS hn hfp hfr he) (show p < 16 by omega) (show r < 16 by omega)) rfl rfl 0 rfl rfl rfl [1, 2, 3] [0] rfl rfl rfl rfl (by decide) jRm_ok (Nat.le_of_ble_eq_true rfl) ⟨(Nat.le_of_ble_eq_true rfl), (Nat.le_of_ble_eq_true rfl)⟩ [0, 1, 2, 3] rfl rfl ?_
            exact r_iret 84 dX2_sew_84 rfl rfl (Nat.le_of_ble_eq_true rfl) (Nat.le_of_ble_eq_true rfl) (jd rfl)
          · -- 60F
            exact absurd (he.symm.trans c_60) (by decide)
        · -- 45F
          exact absurd (hw.symm.trans c_45) (by decide)
    · -- 19F
      exact absurd (plB_of hS hr) c_19
set_option maxRecDepth 100000 in
set_option maxHeartbeats 400000 in
theorem h_unpickS {G : jG} {d : Nat} {x q t ai b pa ql qh : Nat} {sg : Int32} {ov : Value} {S : qS} (hS : wf S) {p r : Nat} (hp : p < sP S) (hr : r < sP S) (hw : sW S p r = false) : Ct G yX2_unpick cX2_unpick 3 (some .int) (d + 7) 0 0 [.ref x, .int (nI p), .int (nI r)] (hX x q t ai b pa sg ov :: (wS G q ql qh (S))) (jD (some (.int (-3))) (hX x q t ai b pa sg ov :: (wS G q ql qh (S)))) := by
  refine ct_of (by decide) (Nat.le_of_ble_eq_true rfl) (own := RX2) (nm := "unpick") rfl rfl (lv := [some (.ref x), some (.int (nI p)), some (.int (nI r))]) rfl ?_
  have h16 := hS.p16
  refine r_aload_n 0 dX2_unpick_0 rfl ?_
  refine r_get 1 f_X2_10 dX2_unpick_1 0 rfl rfl ?_
  refine r_iload_n 4 dX2_unpick_4 rfl ?_
  refine r_callVD (ws2 := [_, _, _, _]) (wr := [_]) 5 s_X2_76 dX2_unpick_5 (c_X1_isPlace) rfl rfl 0 rfl rfl rfl [1, 2, 3] [0] rfl rfl rfl rfl (by decide) jRm_ok (Nat.le_of_ble_eq_true rfl) ⟨(Nat.le_of_ble_eq_true rfl), (Nat.le_of_ble_eq_true rfl)⟩ [0, 1, 2, 3] rfl rfl ?_
  refine r_if_eqB 8 22 dX2_unpick_8 (by decide) (fun c_8 => ?_) (fun c_8 => ?_)
  · -- 8T
    exact absurd (plB_of hS hp) c_8
  · -- 8F
    refine r_aload_n 11 dX2_unpick_11 rfl ?_
    refine r_get 12 f_X2_10 dX2_unpick_12 0 rfl rfl ?_
    refine r_iload_n 15 dX2_unpick_15 rfl ?_
    refine r_callVD (ws2 := [_, _, _, _]) (wr := [_]) 16 s_X2_76 dX2_unpick_16 (c_X1_isPlace) rfl rfl 0 rfl rfl rfl [1, 2, 3] [0] rfl rfl rfl rfl (by decide) jRm_ok (Nat.le_of_ble_eq_true rfl) ⟨(Nat.le_of_ble_eq_true rfl), (Nat.le_of_ble_eq_true rfl)⟩ [0, 1, 2, 3] rfl rfl ?_
    refine r_if_neB 19 24 dX2_unpick_19 (by decide) (fun c_19 => ?_) (fun c_19 => ?_)
    · -- 19T
      refine r_aload_n 24 dX2_unpick_24 rfl ?_
      refine r_get 25 f_X2_10 dX2_unpick_25 0 rfl rfl ?_
      refine r_iload_n 28 dX2_unpick_28 rfl ?_
      refine r_iload_n 29 dX2_unpick_29 rfl ?_
      refine r_callVD (ws2 := [_, _, _, _]) (wr := [_]) 30 s_X2_103 dX2_unpick_30 (c_X1_isSewn hS (show p < 16 by omega) (show r < 16 by omega)) rfl rfl 0 rfl rfl rfl [1, 2, 3] [0] rfl rfl rfl rfl (by decide) jRm_ok (Nat.le_of_ble_eq_true rfl) ⟨(Nat.le_of_ble_eq_true rfl), (Nat.le_of_ble_eq_true rfl)⟩ [0, 1, 2, 3] rfl rfl ?_
      refine r_if_neB 33 39 dX2_unpick_33 (by decide) (fun c_33 => ?_) (fun c_33 => ?_)
      · -- 33T
        exact absurd (hw.symm.trans c_33) (by decide)
      · -- 33F
        refine r_bipush (v := -3) 36 dX2_unpick_36 (by decide) ?_
        exact r_iret 38 dX2_unpick_38 rfl rfl (Nat.le_of_ble_eq_true rfl) (Nat.le_of_ble_eq_true rfl) (jd rfl)
    · -- 19F
      exact absurd (plB_of hS hr) c_19
set_option maxRecDepth 100000 in
set_option maxHeartbeats 400000 in
theorem h_unpick1 {G : jG} {d : Nat} {x q t ai b pa ql qh : Nat} {sg : Int32} {ov : Value} {S : qS} (hS : wf S) {p r : Nat} (hp : p < sP S) (hr : r < sP S) (hw : sW S p r = true) : Ct G yX2_unpick cX2_unpick 3 (some .int) (d + 7) 0 0 [.ref x, .int (nI p), .int (nI r)] (hX x q t ai b pa sg ov :: (wS G q ql qh (S))) (jD (some (.int (nI (thN S p r)))) (hX x q t ai b pa sg ov :: (wS G q ql qh (sSetW S (loW S (one p) (one r)))))) := by
  refine ct_of (by decide) (Nat.le_of_ble_eq_true rfl) (own := RX2) (nm := "unpick") rfl rfl (lv := [some (.ref x), some (.int (nI p)), some (.int (nI r))]) rfl ?_
  have h16 := hS.p16
  refine r_aload_n 0 dX2_unpick_0 rfl ?_
  refine r_get 1 f_X2_10 dX2_unpick_1 0 rfl rfl ?_
  refine r_iload_n 4 dX2_unpick_4 rfl ?_
  refine r_callVD (ws2 := [_, _, _, _]) (wr := [_]) 5 s_X2_76 dX2_unpick_5 (c_X1_isPlace) rfl rfl 0 rfl rfl rfl [1, 2, 3] [0] rfl rfl rfl rfl (by decide) jRm_ok (Nat.le_of_ble_eq_true rfl) ⟨(Nat.le_of_ble_eq_true rfl), (Nat.le_of_ble_eq_true rfl)⟩ [0, 1, 2, 3] rfl rfl ?_
  refine r_if_eqB 8 22 dX2_unpick_8 (by decide) (fun c_8 => ?_) (fun c_8 => ?_)
  · -- 8T
    exact absurd (plB_of hS hp) c_8
  · -- 8F
    refine r_aload_n 11 dX2_unpick_11 rfl ?_
    refine r_get 12 f_X2_10 dX2_unpick_12 0 rfl rfl ?_
    refine r_iload_n 15 dX2_unpick_15 rfl ?_
    refine r_callVD (ws2 := [_, _, _, _]) (wr := [_]) 16 s_X2_76 dX2_unpick_16 (c_X1_isPlace) rfl rfl 0 rfl rfl rfl [1, 2, 3] [0] rfl rfl rfl rfl (by decide) jRm_ok (Nat.le_of_ble_eq_true rfl) ⟨(Nat.le_of_ble_eq_true rfl), (Nat.le_of_ble_eq_true rfl)⟩ [0, 1, 2, 3] rfl rfl ?_
    refine r_if_neB 19 24 dX2_unpick_19 (by decide) (fun c_19 => ?_) (fun c_19 => ?_)
    · -- 19T
      refine r_aload_n 24 dX2_unpick_24 rfl ?_
      refine r_get 25 f_X2_10 dX2_unpick_25 0 rfl rfl ?_
      refine r_iload_n 28 dX2_unpick_28 rfl ?_
      refine r_iload_n 29 dX2_unpick_29 rfl ?_
      refine r_callVD (ws2 := [_, _, _, _]) (wr := [_]) 30 s_X2_103 dX2_unpick_30 (c_X1_isSewn hS (show p < 16 by omega) (show r < 16 by omega)) rfl rfl 0 rfl rfl rfl [1, 2, 3] [0] rfl rfl rfl rfl (by decide) jRm_ok (Nat.le_of_ble_eq_true rfl) ⟨(Nat.le_of_ble_eq_true rfl), (Nat.le_of_ble_eq_true rfl)⟩ [0, 1, 2, 3] rfl rfl ?_
      refine r_if_neB 33 39 dX2_unpick_33 (by decide) (fun c_33 => ?_) (fun c_33 => ?_)
      · -- 33T
        refine r_aload_n 39 dX2_unpick_39 rfl ?_
        refine r_get 40 f_X2_10 dX2_unpick_40 0 rfl rfl ?_
        refine r_iconst (v := 1) 43 dX2_unpick_43 (by decide) ?_
        refine r_iload_n 44 dX2_unpick_44 rfl ?_
        refine r_ishl 45 dX2_unpick_45 ?_
        refine r_ti (y := mI (one p)) (mI_on (by omega)) ?_
        refine r_iconst (v := 1) 46 dX2_unpick_46 (by decide) ?_
        refine r_iload_n 47 dX2_unpick_47 rfl ?_
        refine r_ishl 48 dX2_unpick_48 ?_
        refine r_ti (y := mI (one r)) (mI_on (by omega)) ?_
        refine r_callVD (ws2 := [_, _, _, _]) (wr := [_]) 49 s_X2_116 dX2_unpick_49 (c_X1_loosen hS) rfl rfl 0 rfl rfl rfl [1, 2, 3] [0] rfl rfl rfl rfl (by decide) jRm_ok (Nat.le_of_ble_eq_true rfl) ⟨(Nat.le_of_ble_eq_true rfl), (Nat.le_of_ble_eq_true rfl)⟩ [0, 1, 2, 3] rfl rfl ?_
        refine r_aload_n 52 dX2_unpick_52 rfl ?_
        refine r_get 53 f_X2_10 dX2_unpick_53 0 rfl rfl ?_
        refine r_iload_n 56 dX2_unpick_56 rfl ?_
        refine r_iload_n 57 dX2_unpick_57 rfl ?_
        refine r_callVD (ws2 := [_, _, _, _]) (wr := [_]) 58 s_X2_112 dX2_unpick_58 (c_X1_threadOf (S := sSetW S (loW S (one p) (one r))) (wf_lo hS _ _) (show p < 16 by omega) (show r < 16 by omega)) rfl rfl 0 rfl rfl rfl [1, 2, 3] [0] rfl rfl rfl rfl (by decide) jRm_ok (Nat.le_of_ble_eq_true rfl) ⟨(Nat.le_of_ble_eq_true rfl), (Nat.le_of_ble_eq_true rfl)⟩ [0, 1, 2, 3] rfl rfl ?_
        exact r_iret 61 dX2_unpick_61 rfl rfl (Nat.le_of_ble_eq_true rfl) (Nat.le_of_ble_eq_true rfl) (jd rfl)
      · -- 33F
        exact absurd hw c_33
    · -- 19F
      exact absurd (plB_of hS hr) c_19
theorem q_bear2 {G : jG} {d q ql qh : Nat} {S : qS} (hS : wf S) {p f : Nat} (hp : p < sP S) (hp6 : p < 16) (hf : f < 4) (h4 : sF S p = 4) : Ct G yX1_bear cX1_bear 5 (some .int) (d + 5) 0 0 [.ref q, .int (nI p), .int (nI f)] (wS G q ql qh S) (jD (some (.int (nI (cnt (sW (beS S p f) p) 16)))) (wS G q ql qh (beS S p f))) := by
  rw [← cnt_one hp6]
  exact q_bear hS hp hp6 hf h4
theorem q_bury2 {G : jG} {d q ql qh : Nat} {S : qS} (hS : wf S) {p : Nat} (hp : p < 16) : Ct G yX1_bury cX1_bury 4 (some .int) (d + 3) 0 0 [.ref q, .int (nI p)] (wS G q ql qh S) (jD (some (.int (nI (cnt (sW S p) 16)))) (wS G q ql qh (dieS S p))) := by
  rw [← cnt_one hp]
  exact q_bury hS hp
set_option maxRecDepth 100000 in
set_option maxHeartbeats 400000 in
theorem h_birth1 {G : jG} {d : Nat} {x q t ai b pa ql qh : Nat} {sg : Int32} {ov : Value} {S : qS} (hS : wf S) {p f : Nat} (hp : p < sP S) (hf : f < 4) (h4 : sF S p = 4) : Ct G yX2_birth cX2_birth 3 (some .int) (d + 6) 0 0 [.ref x, .int (nI p), .int (nI f)] (hX x q t ai b pa sg ov :: (wS G q ql qh (S))) (jD (some (.int (nI (cnt (sW (beS S p f) p) 16)))) (hX x q t ai b pa sg ov :: (wS G q ql qh (beS S p f)))) := by
  refine ct_of (by decide) (Nat.le_of_ble_eq_true rfl) (own := RX2) (nm := "birth") rfl rfl (lv := [some (.ref x), some (.int (nI p)), some (.int (nI f))]) rfl ?_
  have h16 := hS.p16
  refine r_aload_n 0 dX2_birth_0 rfl ?_
  refine r_get 1 f_X2_10 dX2_birth_1 0 rfl rfl ?_
  refine r_iload_n 4 dX2_birth_4 rfl ?_
  refine r_callVD (ws2 := [_, _, _, _]) (wr := [_]) 5 s_X2_76 dX2_birth_5 (c_X1_isPlace) rfl rfl 0 rfl rfl rfl [1, 2, 3] [0] rfl rfl rfl rfl (by decide) jRm_ok (Nat.le_of_ble_eq_true rfl) ⟨(Nat.le_of_ble_eq_true rfl), (Nat.le_of_ble_eq_true rfl)⟩ [0, 1, 2, 3] rfl rfl ?_
  refine r_if_eqB 8 18 dX2_birth_8 (by decide) (fun c_8 => ?_) (fun c_8 => ?_)
  · -- 8T
    exact absurd (plB_of hS hp) c_8
  · -- 8F
    refine r_iload_n 11 dX2_birth_11 rfl ?_
    refine r_callSD (ws2 := [_, _, _, _]) (wr := [_, _, _, _]) 12 s_X2_83 dX2_birth_12 (c_isFam1 hf) rfl rfl [] [0, 1, 2, 3] rfl rfl rfl rfl (by decide) jRm_ok (Nat.le_of_ble_eq_true rfl) ⟨(Nat.le_of_ble_eq_true rfl), (Nat.le_of_ble_eq_true rfl)⟩ [0, 1, 2, 3] rfl rfl ?_
    refine r_if_neT 15 20 dX2_birth_15 (by decide) (by decide) ?_
    refine r_aload_n 20 dX2_birth_20 rfl ?_
    refine r_get 21 f_X2_10 dX2_birth_21 0 rfl rfl ?_
    refine r_iload_n 24 dX2_birth_24 rfl ?_
    refine r_callVD (ws2 := [_, _, _, _]) (wr := [_]) 25 s_X2_119 dX2_birth_25 (c_X1_hasSquare (show p < 16 by omega)) rfl rfl 0 rfl rfl rfl [1, 2, 3] [0] rfl rfl rfl rfl (by decide) jRm_ok (Nat.le_of_ble_eq_true rfl) ⟨(Nat.le_of_ble_eq_true rfl), (Nat.le_of_ble_eq_true rfl)⟩ [0, 1, 2, 3] rfl rfl ?_
    refine r_if_eqB 28 34 dX2_birth_28 (by decide) (fun c_28 => ?_) (fun c_28 => ?_)
    · -- 28T
      refine r_aload_n 34 dX2_birth_34 rfl ?_
      refine r_get 35 f_X2_10 dX2_birth_35 0 rfl rfl ?_
      refine r_iload_n 38 dX2_birth_38 rfl ?_
      refine r_iload_n 39 dX2_birth_39 rfl ?_
      refine r_callVD (ws2 := [_, _, _, _]) (wr := [_]) 40 s_X2_122 dX2_birth_40 (q_bear2 hS hp (show p < 16 by omega) hf h4) rfl rfl 0 rfl rfl rfl [1, 2, 3] [0] rfl rfl rfl rfl (by decide) jRm_ok (Nat.le_of_ble_eq_true rfl) ⟨(Nat.le_of_ble_eq_true rfl), (Nat.le_of_ble_eq_true rfl)⟩ [0, 1, 2, 3] rfl rfl ?_
      exact r_iret 43 dX2_birth_43 rfl rfl (Nat.le_of_ble_eq_true rfl) (Nat.le_of_ble_eq_true rfl) (jd rfl)
    · -- 28F
      exact absurd (sqB_iff.mp c_28) (by omega)
set_option maxRecDepth 100000 in
set_option maxHeartbeats 400000 in
theorem h_birthS {G : jG} {d : Nat} {x q t ai b pa ql qh : Nat} {sg : Int32} {ov : Value} {S : qS} (hS : wf S) {p f : Nat} (hp : p < sP S) (hf : f < 4) (h4 : sF S p < 4) : Ct G yX2_birth cX2_birth 3 (some .int) (d + 6) 0 0 [.ref x, .int (nI p), .int (nI f)] (hX x q t ai b pa sg ov :: (wS G q ql qh (S))) (jD (some (.int (-3))) (hX x q t ai b pa sg ov :: (wS G q ql qh (S)))) := by
  refine ct_of (by decide) (Nat.le_of_ble_eq_true rfl) (own := RX2) (nm := "birth") rfl rfl (lv := [some (.ref x), some (.int (nI p)), some (.int (nI f))]) rfl ?_
  have h16 := hS.p16
  refine r_aload_n 0 dX2_birth_0 rfl ?_
  refine r_get 1 f_X2_10 dX2_birth_1 0 rfl rfl ?_
  refine r_iload_n 4 dX2_birth_4 rfl ?_
  refine r_callVD (ws2 := [_, _, _, _]) (wr := [_]) 5 s_X2_76 dX2_birth_5 (c_X1_isPlace) rfl rfl 0 rfl rfl rfl [1, 2, 3] [0] rfl rfl rfl rfl (by decide) jRm_ok (Nat.le_of_ble_eq_true rfl) ⟨(Nat.le_of_ble_eq_true rfl), (Nat.le_of_ble_eq_true rfl)⟩ [0, 1, 2, 3] rfl rfl ?_
  refine r_if_eqB 8 18 dX2_birth_8 (by decide) (fun c_8 => ?_) (fun c_8 => ?_)
  · -- 8T
    exact absurd (plB_of hS hp) c_8
  · -- 8F
    refine r_iload_n 11 dX2_birth_11 rfl ?_
    refine r_callSD (ws2 := [_, _, _, _]) (wr := [_, _, _, _]) 12 s_X2_83 dX2_birth_12 (c_isFam1 hf) rfl rfl [] [0, 1, 2, 3] rfl rfl rfl rfl (by decide) jRm_ok (Nat.le_of_ble_eq_true rfl) ⟨(Nat.le_of_ble_eq_true rfl), (Nat.le_of_ble_eq_true rfl)⟩ [0, 1, 2, 3] rfl rfl ?_
    refine r_if_neT 15 20 dX2_birth_15 (by decide) (by decide) ?_
    refine r_aload_n 20 dX2_birth_20 rfl ?_
    refine r_get 21 f_X2_10 dX2_birth_21 0 rfl rfl ?_
    refine r_iload_n 24 dX2_birth_24 rfl ?_
    refine r_callVD (ws2 := [_, _, _, _]) (wr := [_]) 25 s_X2_119 dX2_birth_25 (c_X1_hasSquare (show p < 16 by omega)) rfl rfl 0 rfl rfl rfl [1, 2, 3] [0] rfl rfl rfl rfl (by decide) jRm_ok (Nat.le_of_ble_eq_true rfl) ⟨(Nat.le_of_ble_eq_true rfl), (Nat.le_of_ble_eq_true rfl)⟩ [0, 1, 2, 3] rfl rfl ?_
    refine r_if_eqB 28 34 dX2_birth_28 (by decide) (fun c_28 => ?_) (fun c_28 => ?_)
    · -- 28T
      exact absurd (sqB_iff.mpr h4) c_28
    · -- 28F
      refine r_bipush (v := -3) 31 dX2_birth_31 (by decide) ?_
      exact r_iret 33 dX2_birth_33 rfl rfl (Nat.le_of_ble_eq_true rfl) (Nat.le_of_ble_eq_true rfl) (jd rfl)
set_option maxRecDepth 100000 in
set_option maxHeartbeats 400000 in
theorem h_birthU {G : jG} {d : Nat} {x q t ai b pa ql qh : Nat} {sg : Int32} {ov : Value} {S : qS} {u v : Int32} (h : ¬ (plB S u = true ∧ (0 ≤ v ∧ v ≤ 3))) : Ct G yX2_birth cX2_birth 3 (some .int) (d + 6) 0 0 [.ref x, .int u, .int v] (hX x q t ai b pa sg ov :: (wS G q ql qh (S))) (jD (some (.int (-1))) (hX x q t ai b pa sg ov :: (wS G q ql qh (S)))) := by
  refine ct_of (by decide) (Nat.le_of_ble_eq_true rfl) (own := RX2) (nm := "birth") rfl rfl (lv := [some (.ref x), some (.int u), some (.int v)]) rfl ?_
  refine r_aload_n 0 dX2_birth_0 rfl ?_
  refine r_get 1 f_X2_10 dX2_birth_1 0 rfl rfl ?_
  refine r_iload_n 4 dX2_birth_4 rfl ?_
  refine r_callVD (ws2 := [_, _, _, _]) (wr := [_]) 5 s_X2_76 dX2_birth_5 (c_X1_isPlace) rfl rfl 0 rfl rfl rfl [1, 2, 3] [0] rfl rfl rfl rfl (by decide) jRm_ok (Nat.le_of_ble_eq_true rfl) ⟨(Nat.le_of_ble_eq_true rfl), (Nat.le_of_ble_eq_true rfl)⟩ [0, 1, 2, 3] rfl rfl ?_
  refine r_if_eqB 8 18 dX2_birth_8 (by decide) (fun c_8 => ?_) (fun c_8 => ?_)
  · -- 8T
    refine r_iconst (v := -1) 18 dX2_birth_18 (by decide) ?_
    exact r_iret 19 dX2_birth_19 rfl rfl (Nat.le_of_ble_eq_true rfl) (Nat.le_of_ble_eq_true rfl) (jd rfl)
  · -- 8F
    refine r_iload_n 11 dX2_birth_11 rfl ?_
    refine r_callSD (ws2 := [_, _, _, _]) (wr := [_, _, _, _]) 12 s_X2_83 dX2_birth_12 (c_X2_isFamily) rfl rfl [] [0, 1, 2, 3] rfl rfl rfl rfl (by decide) jRm_ok (Nat.le_of_ble_eq_true rfl) ⟨(Nat.le_of_ble_eq_true rfl), (Nat.le_of_ble_eq_true rfl)⟩ [0, 1, 2, 3] rfl rfl ?_
    refine r_if_neB 15 20 dX2_birth_15 (by decide) (fun c_15 => ?_) (fun c_15 => ?_)
    · -- 15T
      exact absurd ⟨c_8, c_15⟩ h
    · -- 15F
      refine r_iconst (v := -1) 18 dX2_birth_18 (by decide) ?_
      exact r_iret 19 dX2_birth_19 rfl rfl (Nat.le_of_ble_eq_true rfl) (Nat.le_of_ble_eq_true rfl) (jd rfl)
set_option maxRecDepth 100000 in
set_option maxHeartbeats 400000 in
theorem h_death1 {G : jG} {d : Nat} {x q t ai b pa ql qh : Nat} {sg : Int32} {ov : Value} {S : qS} (hS : wf S) {p : Nat} (hp : p < sP S) (h4 : sF S p < 4) : Ct G yX2_death cX2_death 2 (some .int) (d + 6) 0 0 [.ref x, .int (nI p)] (hX x q t ai b pa sg ov :: (wS G q ql qh (S))) (jD (some (.int (nI (cnt (sW S p) 16)))) (hX x q t ai b pa sg ov :: (wS G q ql qh (dieS S p)))) := by
  refine ct_of (by decide) (Nat.le_of_ble_eq_true rfl) (own := RX2) (nm := "death") rfl rfl (lv := [some (.ref x), some (.int (nI p))]) rfl ?_
  have h16 := hS.p16
  refine r_aload_n 0 dX2_death_0 rfl ?_
  refine r_get 1 f_X2_10 dX2_death_1 0 rfl rfl ?_
  refine r_iload_n 4 dX2_death_4 rfl ?_
  refine r_callVD (ws2 := [_, _, _, _]) (wr := [_]) 5 s_X2_76 dX2_death_5 (c_X1_isPlace) rfl rfl 0 rfl rfl rfl [1, 2, 3] [0] rfl rfl rfl rfl (by decide) jRm_ok (Nat.le_of_ble_eq_true rfl) ⟨(Nat.le_of_ble_eq_true rfl), (Nat.le_of_ble_eq_true rfl)⟩ [0, 1, 2, 3] rfl rfl ?_
  refine r_if_neB 8 13 dX2_death_8 (by decide) (fun c_8 => ?_) (fun c_8 => ?_)
  · -- 8T
    refine r_aload_n 13 dX2_death_13 rfl ?_
    refine r_get 14 f_X2_10 dX2_death_14 0 rfl rfl ?_
    refine r_iload_n 17 dX2_death_17 rfl ?_
    refine r_callVD (ws2 := [_, _, _, _]) (wr := [_]) 18 s_X2_119 dX2_death_18 (c_X1_hasSquare (show p < 16 by omega)) rfl rfl 0 rfl rfl rfl [1, 2, 3] [0] rfl rfl rfl rfl (by decide) jRm_ok (Nat.le_of_ble_eq_true rfl) ⟨(Nat.le_of_ble_eq_true rfl), (Nat.le_of_ble_eq_true rfl)⟩ [0, 1, 2, 3] rfl rfl ?_
    refine r_if_neB 21 27 dX2_death_21 (by decide) (fun c_21 => ?_) (fun c_21 => ?_)
    · -- 21T
      refine r_aload_n 27 dX2_death_27 rfl ?_
      refine r_get 28 f_X2_10 dX2_death_28 0 rfl rfl ?_
      refine r_iload_n 31 dX2_death_31 rfl ?_
      refine r_callVD (ws2 := [_, _, _, _]) (wr := [_]) 32 s_X2_125 dX2_death_32 (q_bury2 hS (show p < 16 by omega)) rfl rfl 0 rfl rfl rfl [1, 2, 3] [0] rfl rfl rfl rfl (by decide) jRm_ok (Nat.le_of_ble_eq_true rfl) ⟨(Nat.le_of_ble_eq_true rfl), (Nat.le_of_ble_eq_true rfl)⟩ [0, 1, 2, 3] rfl rfl ?_
      exact r_iret 35 dX2_death_35 rfl rfl (Nat.le_of_ble_eq_true rfl) (Nat.le_of_ble_eq_true rfl) (jd rfl)
    · -- 21F
      exact absurd (sqB_iff.mpr h4) c_21
  · -- 8F
    exact absurd (plB_of hS hp) c_8
set_option maxRecDepth 100000 in
set_option maxHeartbeats 400000 in
theorem h_deathS {G : jG} {d : Nat} {x q t ai b pa ql qh : Nat} {sg : Int32} {ov : Value} {S : qS} (hS : wf S) {p : Nat} (hp : p < sP S) (h4 : sF S p = 4) : Ct G yX2_death cX2_death 2 (some .int) (d + 6) 0 0 [.ref x, .int (nI p)] (hX x q t ai b pa sg ov :: (wS G q ql qh (S))) (jD (some (.int (-3))) (hX x q t ai b pa sg ov :: (wS G q ql qh (S)))) := by
  refine ct_of (by decide) (Nat.le_of_ble_eq_true rfl) (own := RX2) (nm := "death") rfl rfl (lv := [some (.ref x), some (.int (nI p))]) rfl ?_
  have h16 := hS.p16
  refine r_aload_n 0 dX2_death_0 rfl ?_
  refine r_get 1 f_X2_10 dX2_death_1 0 rfl rfl ?_
  refine r_iload_n 4 dX2_death_4 rfl ?_
  refine r_callVD (ws2 := [_, _, _, _]) (wr := [_]) 5 s_X2_76 dX2_death_5 (c_X1_isPlace) rfl rfl 0 rfl rfl rfl [1, 2, 3] [0] rfl rfl rfl rfl (by decide) jRm_ok (Nat.le_of_ble_eq_true rfl) ⟨(Nat.le_of_ble_eq_true rfl), (Nat.le_of_ble_eq_true rfl)⟩ [0, 1, 2, 3] rfl rfl ?_
  refine r_if_neB 8 13 dX2_death_8 (by decide) (fun c_8 => ?_) (fun c_8 => ?_)
  · -- 8T
    refine r_aload_n 13 dX2_death_13 rfl ?_
    refine r_get 14 f_X2_10 dX2_death_14 0 rfl rfl ?_
    refine r_iload_n 17 dX2_death_17 rfl ?_
    refine r_callVD (ws2 := [_, _, _, _]) (wr := [_]) 18 s_X2_119 dX2_death_18 (c_X1_hasSquare (show p < 16 by omega)) rfl rfl 0 rfl rfl rfl [1, 2, 3] [0] rfl rfl rfl rfl (by decide) jRm_ok (Nat.le_of_ble_eq_true rfl) ⟨(Nat.le_of_ble_eq_true rfl), (Nat.le_of_ble_eq_true rfl)⟩ [0, 1, 2, 3] rfl rfl ?_
    refine r_if_neB 21 27 dX2_death_21 (by decide) (fun c_21 => ?_) (fun c_21 => ?_)
    · -- 21T
      exact absurd (sqB_iff.mp c_21) (by omega)
    · -- 21F
      refine r_bipush (v := -3) 24 dX2_death_24 (by decide) ?_
      exact r_iret 26 dX2_death_26 rfl rfl (Nat.le_of_ble_eq_true rfl) (Nat.le_of_ble_eq_true rfl) (jd rfl)
  · -- 8F
    exact absurd (plB_of hS hp) c_8
set_option maxRecDepth 100000 in
set_option maxHeartbeats 400000 in
theorem h_deathU {G : jG} {d : Nat} {x q t ai b pa ql qh : Nat} {sg : Int32} {ov : Value} {S : qS} {u : Int32} (h : ¬ plB S u = true) : Ct G yX2_death cX2_death 2 (some .int) (d + 6) 0 0 [.ref x, .int u] (hX x q t ai b pa sg ov :: (wS G q ql qh (S))) (jD (some (.int (-1))) (hX x q t ai b pa sg ov :: (wS G q ql qh (S)))) := by
  refine ct_of (by decide) (Nat.le_of_ble_eq_true rfl) (own := RX2) (nm := "death") rfl rfl (lv := [some (.ref x), some (.int u)]) rfl ?_
  refine r_aload_n 0 dX2_death_0 rfl ?_
  refine r_get 1 f_X2_10 dX2_death_1 0 rfl rfl ?_
  refine r_iload_n 4 dX2_death_4 rfl ?_
  refine r_callVD (ws2 := [_, _, _, _]) (wr := [_]) 5 s_X2_76 dX2_death_5 (c_X1_isPlace) rfl rfl 0 rfl rfl rfl [1, 2, 3] [0] rfl rfl rfl rfl (by decide) jRm_ok (Nat.le_of_ble_eq_true rfl) ⟨(Nat.le_of_ble_eq_true rfl), (Nat.le_of_ble_eq_true rfl)⟩ [0, 1, 2, 3] rfl rfl ?_
  refine r_if_neB 8 13 dX2_death_8 (by decide) (fun c_8 => ?_) (fun c_8 => ?_)
  · -- 8T
    exact absurd c_8 h
  · -- 8F
    refine r_iconst (v := -1) 11 dX2_death_11 (by decide) ?_
    exact r_iret 12 dX2_death_12 rfl rfl (Nat.le_of_ble_eq_true rfl) (Nat.le_of_ble_eq_true rfl) (jd rfl)
set_option maxRecDepth 100000 in
set_option maxHeartbeats 400000 in
theorem h_piecesA {G : jG} {d : Nat} {x q t ai b pa ql qh : Nat} {sg : Int32} {ov : Value} {S : qS} (hS : wf S) : Ct G yX2_pieces cX2_pieces 2 (some .int) (d + 4) 0 0 [.ref x, .int (-1)] (hX x q t ai b pa sg ov :: (wS G q ql qh (S))) (jD (some (.int (nI (cpN S 16 (sqB S))))) (hX x q t ai b pa sg ov :: (wS G q ql qh (S)))) := by
  refine ct_of (by decide) (Nat.le_of_ble_eq_true rfl) (own := RX2) (nm := "pieces") rfl rfl (lv := [some (.ref x), some (.int (-1))]) rfl ?_
  refine r_iload_n 0 dX2_pieces_0 rfl ?_
  refine r_iconst (v := -1) 1 dX2_pieces_1 (by decide) ?_
  refine r_icmp_neF 2 20 dX2_pieces_2 (by decide) (by decide) ?_
  refine r_aload_n 5 dX2_pieces_5 rfl ?_
  refine r_get 6 f_X2_10 dX2_pieces_6 0 rfl rfl ?_
  refine r_aload_n 9 dX2_pieces_9 rfl ?_
  refine r_get 10 f_X2_10 dX2_pieces_10 0 rfl rfl ?_
  refine r_callVD (ws2 := [_, _, _, _]) (wr := [_]) 13 s_X2_67 dX2_pieces_13 (q_squares) rfl rfl 0 rfl rfl rfl [1, 2, 3] [0] rfl rfl rfl rfl (by decide) jRm_ok (Nat.le_of_ble_eq_true rfl) ⟨(Nat.le_of_ble_eq_true rfl), (Nat.le_of_ble_eq_true rfl)⟩ [0, 1, 2, 3] rfl rfl ?_
  refine r_callVD (ws2 := [_, _, _, _]) (wr := [_]) 16 s_X2_128 dX2_pieces_16 (c_X1_countPieces hS) rfl rfl 0 rfl rfl rfl [1, 2, 3] [0] rfl rfl rfl rfl (by decide) jRm_ok (Nat.le_of_ble_eq_true rfl) ⟨(Nat.le_of_ble_eq_true rfl), (Nat.le_of_ble_eq_true rfl)⟩ [0, 1, 2, 3] rfl rfl ?_
  exact r_iret 19 dX2_pieces_19 rfl rfl (Nat.le_of_ble_eq_true rfl) (Nat.le_of_ble_eq_true rfl) (jd rfl)
set_option maxRecDepth 100000 in
set_option maxHeartbeats 400000 in
theorem h_pieces1 {G : jG} {d : Nat} {x q t ai b pa ql qh : Nat} {sg : Int32} {ov : Value} {S : qS} (hS : wf S) {p : Nat} (hp : p < sP S) (h4 : sF S p < 4) : Ct G yX2_pieces cX2_pieces 2 (some .int) (d + 4) 0 0 [.ref x, .int (nI p)] (hX x q t ai b pa sg ov :: (wS G q ql qh (S))) (jD (some (.int (mI (pcB S (one p) (sqB S))))) (hX x q t ai b pa sg ov :: (wS G q ql qh (S)))) := by
  refine ct_of (by decide) (Nat.le_of_ble_eq_true rfl) (own := RX2) (nm := "pieces") rfl rfl (lv := [some (.ref x), some (.int (nI p))]) rfl ?_
  have h16 := hS.p16
  refine r_iload_n 0 dX2_pieces_0 rfl ?_
  refine r_iconst (v := -1) 1 dX2_pieces_1 (by decide) ?_
  refine r_icmp_neT 2 20 dX2_pieces_2 (by decide) (nI_m1 (by omega)) ?_
  refine r_aload_n 20 dX2_pieces_20 rfl ?_
  refine r_get 21 f_X2_10 dX2_pieces_21 0 rfl rfl ?_
  refine r_iload_n 24 dX2_pieces_24 rfl ?_
  refine r_callVD (ws2 := [_, _, _, _]) (wr := [_]) 25 s_X2_76 dX2_pieces_25 (c_X1_isPlace) rfl rfl 0 rfl rfl rfl [1, 2, 3] [0] rfl rfl rfl rfl (by decide) jRm_ok (Nat.le_of_ble_eq_true rfl) ⟨(Nat.le_of_ble_eq_true rfl), (Nat.le_of_ble_eq_true rfl)⟩ [0, 1, 2, 3] rfl rfl ?_
  refine r_if_neB 28 33 dX2_pieces_28 (by decide) (fun c_28 => ?_) (fun c_28 => ?_)
  · -- 28T
    refine r_aload_n 33 dX2_pieces_33 rfl ?_
    refine r_get 34 f_X2_10 dX2_pieces_34 0 rfl rfl ?_
    refine r_iload_n 37 dX2_pieces_37 rfl ?_
    refine r_callVD (ws2 := [_, _, _, _]) (wr := [_]) 38 s_X2_119 dX2_pieces_38 (c_X1_hasSquare (show p < 16 by omega)) rfl rfl 0 rfl rfl rfl [1, 2, 3] [0] rfl rfl rfl rfl (by decide) jRm_ok (Nat.le_of_ble_eq_true rfl) ⟨(Nat.le_of_ble_eq_true rfl), (Nat.le_of_ble_eq_true rfl)⟩ [0, 1, 2, 3] rfl rfl ?_
    refine r_if_neB 41 47 dX2_pieces_41 (by decide) (fun c_41 => ?_) (fun c_41 => ?_)
    · -- 41T
      refine r_aload_n 47 dX2_pieces_47 rfl ?_
      refine r_get 48 f_X2_10 dX2_pieces_48 0 rfl rfl ?_
      refine r_iconst (v := 1) 51 dX2_pieces_51 (by decide) ?_
      refine r_iload_n 52 dX2_pieces_52 rfl ?_
      refine r_ishl 53 dX2_pieces_53 ?_
      refine r_ti (y := mI (one p)) (mI_on (by omega)) ?_
      refine r_aload_n 54 dX2_pieces_54 rfl ?_
      refine r_get 55 f_X2_10 dX2_pieces_55 0 rfl rfl ?_
      refine r_callVD (ws2 := [_, _, _, _]) (wr := [_]) 58 s_X2_67 dX2_pieces_58 (q_squares) rfl rfl 0 rfl rfl rfl [1, 2, 3] [0] rfl rfl rfl rfl (by decide) jRm_ok (Nat.le_of_ble_eq_true rfl) ⟨(Nat.le_of_ble_eq_true rfl), (Nat.le_of_ble_eq_true rfl)⟩ [0, 1, 2, 3] rfl rfl ?_
      refine r_callVD (ws2 := [_, _, _, _]) (wr := [_]) 61 s_X2_131 dX2_pieces_61 (c_X1_pieceWith hS) rfl rfl 0 rfl rfl rfl [1, 2, 3] [0] rfl rfl rfl rfl (by decide) jRm_ok (Nat.le_of_ble_eq_true rfl) ⟨(Nat.le_of_ble_eq_true rfl), (Nat.le_of_ble_eq_true rfl)⟩ [0, 1, 2, 3] rfl rfl ?_
      exact r_iret 64 dX2_pieces_64 rfl rfl (Nat.le_of_ble_eq_true rfl) (Nat.le_of_ble_eq_true rfl) (jd rfl)
    · -- 41F
      exact absurd (sqB_iff.mpr h4) c_41
  · -- 28F
    exact absurd (plB_of hS hp) c_28
set_option maxRecDepth 100000 in
set_option maxHeartbeats 400000 in
theorem h_piecesS {G : jG} {d : Nat} {x q t ai b pa ql qh : Nat} {sg : Int32} {ov : Value} {S : qS} (hS : wf S) {p : Nat} (hp : p < sP S) (h4 : sF S p = 4) : Ct G yX2_pieces cX2_pieces 2 (some .int) (d + 4) 0 0 [.ref x, .int (nI p)] (hX x q t ai b pa sg ov :: (wS G q ql qh (S))) (jD (some (.int (-3))) (hX x q t ai b pa sg ov :: (wS G q ql qh (S)))) := by
  refine ct_of (by decide) (Nat.le_of_ble_eq_true rfl) (own := RX2) (nm := "pieces") rfl rfl (lv := [some (.ref x), some (.int (nI p))]) rfl ?_
  have h16 := hS.p16
  refine r_iload_n 0 dX2_pieces_0 rfl ?_
  refine r_iconst (v := -1) 1 dX2_pieces_1 (by decide) ?_
  refine r_icmp_neT 2 20 dX2_pieces_2 (by decide) (nI_m1 (by omega)) ?_
  refine r_aload_n 20 dX2_pieces_20 rfl ?_
  refine r_get 21 f_X2_10 dX2_pieces_21 0 rfl rfl ?_
  refine r_iload_n 24 dX2_pieces_24 rfl ?_
  refine r_callVD (ws2 := [_, _, _, _]) (wr := [_]) 25 s_X2_76 dX2_pieces_25 (c_X1_isPlace) rfl rfl 0 rfl rfl rfl [1, 2, 3] [0] rfl rfl rfl rfl (by decide) jRm_ok (Nat.le_of_ble_eq_true rfl) ⟨(Nat.le_of_ble_eq_true rfl), (Nat.le_of_ble_eq_true rfl)⟩ [0, 1, 2, 3] rfl rfl ?_
  refine r_if_neB 28 33 dX2_pieces_28 (by decide) (fun c_28 => ?_) (fun c_28 => ?_)
  · -- 28T
    refine r_aload_n 33 dX2_pieces_33 rfl ?_
    refine r_get 34 f_X2_10 dX2_pieces_34 0 rfl rfl ?_
    refine r_iload_n 37 dX2_pieces_37 rfl ?_
    refine r_callVD (ws2 := [_, _, _, _]) (wr := [_]) 38 s_X2_119 dX2_pieces_38 (c_X1_hasSquare (show p < 16 by omega)) rfl rfl 0 rfl rfl rfl [1, 2, 3] [0] rfl rfl rfl rfl (by decide) jRm_ok (Nat.le_of_ble_eq_true rfl) ⟨(Nat.le_of_ble_eq_true rfl), (Nat.le_of_ble_eq_true rfl)⟩ [0, 1, 2, 3] rfl rfl ?_
    refine r_if_neB 41 47 dX2_pieces_41 (by decide) (fun c_41 => ?_) (fun c_41 => ?_)
    · -- 41T
      exact absurd (sqB_iff.mp c_41) (by omega)
    · -- 41F
      refine r_bipush (v := -3) 44 dX2_pieces_44 (by decide) ?_
      exact r_iret 46 dX2_pieces_46 rfl rfl (Nat.le_of_ble_eq_true rfl) (Nat.le_of_ble_eq_true rfl) (jd rfl)
  · -- 28F
    exact absurd (plB_of hS hp) c_28
set_option maxRecDepth 100000 in
set_option maxHeartbeats 400000 in
theorem h_piecesU {G : jG} {d : Nat} {x q t ai b pa ql qh : Nat} {sg : Int32} {ov : Value} {S : qS} {u : Int32} (h1 : ¬ u = -1) (h : ¬ plB S u = true) : Ct G yX2_pieces cX2_pieces 2 (some .int) (d + 4) 0 0 [.ref x, .int u] (hX x q t ai b pa sg ov :: (wS G q ql qh (S))) (jD (some (.int (-1))) (hX x q t ai b pa sg ov :: (wS G q ql qh (S)))) := by
  refine ct_of (by decide) (Nat.le_of_ble_eq_true rfl) (own := RX2) (nm := "pieces") rfl rfl (lv := [some (.ref x), some (.int u)]) rfl ?_
  refine r_iload_n 0 dX2_pieces_0 rfl ?_
  refine r_iconst (v := -1) 1 dX2_pieces_1 (by decide) ?_
  refine r_icmp_neT 2 20 dX2_pieces_2 (by decide) (h1) ?_
  refine r_aload_n 20 dX2_pieces_20 rfl ?_
  refine r_get 21 f_X2_10 dX2_pieces_21 0 rfl rfl ?_
  refine r_iload_n 24 dX2_pieces_24 rfl ?_
  refine r_callVD (ws2 := [_, _, _, _]) (wr := [_]) 25 s_X2_76 dX2_pieces_25 (c_X1_isPlace) rfl rfl 0 rfl rfl rfl [1, 2, 3] [0] rfl rfl rfl rfl (by decide) jRm_ok (Nat.le_of_ble_eq_true rfl) ⟨(Nat.le_of_ble_eq_true rfl), (Nat.le_of_ble_eq_true rfl)⟩ [0, 1, 2, 3] rfl rfl ?_
  refine r_if_neB 28 33 dX2_pieces_28 (by decide) (fun c_28 => ?_) (fun c_28 => ?_)
  · -- 28T
    exact absurd c_28 h
  · -- 28F
    refine r_iconst (v := -1) 31 dX2_pieces_31 (by decide) ?_
    exact r_iret 32 dX2_pieces_32 rfl rfl (Nat.le_of_ble_eq_true rfl) (Nat.le_of_ble_eq_true rfl) (jd rfl)
set_option maxRecDepth 100000 in
set_option maxHeartbeats 400000 in
theorem h_cold {G : jG} {d : Nat} {x q t ai b pa ql qh : Nat} {sg : Int32} {ov : Value} {S : qS} (hS : wf S) : Ct G yX2_cold cX2_cold 1 (some .int) (d + 4) 0 0 [.ref x] (hX x q t ai b pa sg ov :: (wS G q ql qh (S))) (jD (some (.int (mI (tkB (sqB S) (coB S))))) (hX x q t ai b pa sg ov :: (wS G q ql qh (S)))) := by
  refine ct_of (by decide) (Nat.le_of_ble_eq_true rfl) (own := RX2) (nm := "cold") rfl rfl (lv := [some (.ref x)]) rfl ?_
  refine r_aload_n 0 dX2_cold_0 rfl ?_
  refine r_get 1 f_X2_10 dX2_cold_1 0 rfl rfl ?_
  refine r_callVD (ws2 := [_, _, _, _]) (wr := [_]) 4 s_X2_134 dX2_cold_4 (c_X1_coldSquares hS) rfl rfl 0 rfl rfl rfl [1, 2, 3] [0] rfl rfl rfl rfl (by decide) jRm_ok (Nat.le_of_ble_eq_true rfl) ⟨(Nat.le_of_ble_eq_true rfl), (Nat.le_of_ble_eq_true rfl)⟩ [0, 1, 2, 3] rfl rfl ?_
  exact r_iret 7 dX2_cold_7 rfl rfl (Nat.le_of_ble_eq_true rfl) (Nat.le_of_ble_eq_true rfl) (jd rfl)
set_option maxRecDepth 100000 in
set_option maxHeartbeats 400000 in
theorem h_spent {G : jG} {d : Nat} {x q t ai b pa ql qh : Nat} {sg : Int32} {ov : Value} {S : qS} (hS : wf S) : Ct G yX2_spent cX2_spent 1 (some .int) (d + 5) 0 0 [.ref x] (hX x q t ai b pa sg ov :: (wS G q ql qh (S))) (jD (some (.int (nI (kiN S 4) * nI (sK S) + (nI (csN S) - nI (kiN S 4)) * nI (sO S)))) (hX x q t ai b pa sg ov :: (wS G q ql qh (S)))) := by
  refine ct_of (by decide) (Nat.le_of_ble_eq_true rfl) (own := RX2) (nm := "spent") rfl rfl (lv := [some (.ref x)]) rfl ?_
  refine r_aload_n 0 dX2_spent_0 rfl ?_
  refine r_get 1 f_X2_10 dX2_spent_1 0 rfl rfl ?_
  refine r_callVD (ws2 := [_, _, _, _]) (wr := [_]) 4 s_X2_137 dX2_spent_4 (c_X1_threadOfAll hS) rfl rfl 0 rfl rfl rfl [1, 2, 3] [0] rfl rfl rfl rfl (by decide) jRm_ok (Nat.le_of_ble_eq_true rfl) ⟨(Nat.le_of_ble_eq_true rfl), (Nat.le_of_ble_eq_true rfl)⟩ [0, 1, 2, 3] rfl rfl ?_
  exact r_iret 7 dX2_spent_7 rfl rfl (Nat.le_of_ble_eq_true rfl) (Nat.le_of_ble_eq_true rfl) (jd rfl)
set_option maxRecDepth 100000 in
set_option maxHeartbeats 400000 in
theorem h_parts {G : jG} {d : Nat} {x q t ai b pa ql qh : Nat} {sg : Int32} {ov : Value} {S : qS} (hS : wf S) : Ct G yX2_parts cX2_parts 1 (some .int) (d + 5) 0 0 [.ref x] (hX x q t ai b pa sg ov :: (wS G q ql qh (S))) (jD (some (.int (mI (tkB (sqB S) (paB S))))) (hX x q t ai b pa sg ov :: (wS G q ql qh (S)))) := by
  refine ct_of (by decide) (Nat.le_of_ble_eq_true rfl) (own := RX2) (nm := "parts") rfl rfl (lv := [some (.ref x)]) rfl ?_
  refine r_aload_n 0 dX2_parts_0 rfl ?_
  refine r_get 1 f_X2_10 dX2_parts_1 0 rfl rfl ?_
  refine r_callVD (ws2 := [_, _, _, _]) (wr := [_]) 4 s_X2_140 dX2_parts_4 (c_X1_partingSquares hS) rfl rfl 0 rfl rfl rfl [1, 2, 3] [0] rfl rfl rfl rfl (by decide) jRm_ok (Nat.le_of_ble_eq_true rfl) ⟨(Nat.le_of_ble_eq_true rfl), (Nat.le_of_ble_eq_true rfl)⟩ [0, 1, 2, 3] rfl rfl ?_
  exact r_iret 7 dX2_parts_7 rfl rfl (Nat.le_of_ble_eq_true rfl) (Nat.le_of_ble_eq_true rfl) (jd rfl)
set_option maxRecDepth 100000 in
set_option maxHeartbeats 400000 in
theorem h_told0 {G : jG} {d : Nat} {x q t ai b pa ql qh : Nat} {sg : Int32} {ov : Value} {S : qS} : Ct G yX2_told cX2_told 2 (some .int) (d + 3) 0 0 [.ref x, .int 0] (hX x q t ai b pa sg ov :: (wS G q ql qh (S))) (jD (some (.int (sg))) (hX x q t ai b pa sg ov :: (wS G q ql qh (S)))) := by
  refine ct_of (by decide) (Nat.le_of_ble_eq_true rfl) (own := RX2) (nm := "told") rfl rfl (lv := [some (.ref x), some (.int 0)]) rfl ?_
  refine r_iload_n 0 dX2_told_0 rfl ?_
  refine r_tableIn 1 48 dX2_told_1 (by decide) (by decide) rfl (by decide) ?_
  refine r_aload_n 48 dX2_told_48 rfl ?_
  refine r_get 49 f_X2_34 dX2_told_49 0 rfl rfl ?_
  exact r_iret 52 dX2_told_52 rfl rfl (Nat.le_of_ble_eq_true rfl) (Nat.le_of_ble_eq_true rfl) (jd rfl)
set_option maxRecDepth 100000 in
set_option maxHeartbeats 400000 in
theorem h_told1 {G : jG} {d : Nat} {x q t ai b pa ql qh : Nat} {sg : Int32} {ov : Value} {S : qS} : Ct G yX2_told cX2_told 2 (some .int) (d + 3) 0 0 [.ref x, .int 1] (hX x q t ai b pa sg ov :: (wS G q ql qh (S))) (jD (some (.int (nI (sR S)))) (hX x q t ai b pa sg ov :: (wS G q ql qh (S)))) := by
  refine ct_of (by decide) (Nat.le_of_ble_eq_true rfl) (own := RX2) (nm := "told") rfl rfl (lv := [some (.ref x), some (.int 1)]) rfl ?_
  refine r_iload_n 0 dX2_told_0 rfl ?_
  refine r_tableIn 1 53 dX2_told_1 (by decide) (by decide) rfl (by decide) ?_
  refine r_aload_n 53 dX2_told_53 rfl ?_
  refine r_get 54 f_X2_10 dX2_told_54 0 rfl rfl ?_
  refine r_get 57 f_X2_204 dX2_told_57 1 rfl rfl ?_
  exact r_iret 60 dX2_told_60 rfl rfl (Nat.le_of_ble_eq_true rfl) (Nat.le_of_ble_eq_true rfl) (jd rfl)
set_option maxRecDepth 100000 in
set_option maxHeartbeats 400000 in
theorem h_told2 {G : jG} {d : Nat} {x q t ai b pa ql qh : Nat} {sg : Int32} {ov : Value} {S : qS} : Ct G yX2_told cX2_told 2 (some .int) (d + 3) 0 0 [.ref x, .int 2] (hX x q t ai b pa sg ov :: (wS G q ql qh (S))) (jD (some (.int (nI (sC S)))) (hX x q t ai b pa sg ov :: (wS G q ql qh (S)))) := by
  refine ct_of (by decide) (Nat.le_of_ble_eq_true rfl) (own := RX2) (nm := "told") rfl rfl (lv := [some (.ref x), some (.int 2)]) rfl ?_
  refine r_iload_n 0 dX2_told_0 rfl ?_
  refine r_tableIn 1 61 dX2_told_1 (by decide) (by decide) rfl (by decide) ?_
  refine r_aload_n 61 dX2_told_61 rfl ?_
  refine r_get 62 f_X2_10 dX2_told_62 0 rfl rfl ?_
  refine r_get 65 f_X2_207 dX2_told_65 1 rfl rfl ?_
  exact r_iret 68 dX2_told_68 rfl rfl (Nat.le_of_ble_eq_true rfl) (Nat.le_of_ble_eq_true rfl) (jd rfl)
set_option maxRecDepth 100000 in
set_option maxHeartbeats 400000 in
theorem h_told3 {G : jG} {d : Nat} {x q t ai b pa ql qh : Nat} {sg : Int32} {ov : Value} {S : qS} : Ct G yX2_told cX2_told 2 (some .int) (d + 3) 0 0 [.ref x, .int 3] (hX x q t ai b pa sg ov :: (wS G q ql qh (S))) (jD (some (.int (mI (sqB S)))) (hX x q t ai b pa sg ov :: (wS G q ql qh (S)))) := by
  refine ct_of (by decide) (Nat.le_of_ble_eq_true rfl) (own := RX2) (nm := "told") rfl rfl (lv := [some (.ref x), some (.int 3)]) rfl ?_
  refine r_iload_n 0 dX2_told_0 rfl ?_
  refine r_tableIn 1 69 dX2_told_1 (by decide) (by decide) rfl (by decide) ?_
  refine r_aload_n 69 dX2_told_69 rfl ?_
  refine r_get 70 f_X2_10 dX2_told_70 0 rfl rfl ?_
  refine r_callVD (ws2 := [_, _, _, _]) (wr := [_]) 73 s_X2_67 dX2_told_73 (q_squares) rfl rfl 0 rfl rfl rfl [1, 2, 3] [0] rfl rfl rfl rfl (by decide) jRm_ok (Nat.le_of_ble_eq_true rfl) ⟨(Nat.le_of_ble_eq_true rfl), (Nat.le_of_ble_eq_true rfl)⟩ [0, 1, 2, 3] rfl rfl ?_
  exact r_iret 76 dX2_told_76 rfl rfl (Nat.le_of_ble_eq_true rfl) (Nat.le_of_ble_eq_true rfl) (jd rfl)
set_option maxRecDepth 100000 in
set_option maxHeartbeats 400000 in
theorem h_told4 {G : jG} {d : Nat} {x q t ai b pa ql qh : Nat} {sg : Int32} {ov : Value} {S : qS} : Ct G yX2_told cX2_told 2 (some .int) (d + 3) 0 0 [.ref x, .int 4] (hX x q t ai b pa sg ov :: (wS G q ql qh (S))) (jD (some (.int (nI (sK S)))) (hX x q t ai b pa sg ov :: (wS G q ql qh (S)))) := by
  refine ct_of (by decide) (Nat.le_of_ble_eq_true rfl) (own := RX2) (nm := "told") rfl rfl (lv := [some (.ref x), some (.int 4)]) rfl ?_
  refine r_iload_n 0 dX2_told_0 rfl ?_
  refine r_tableIn 1 77 dX2_told_1 (by decide) (by decide) rfl (by decide) ?_
  refine r_aload_n 77 dX2_told_77 rfl ?_
  refine r_get 78 f_X2_10 dX2_told_78 0 rfl rfl ?_
  refine r_get 81 f_X2_90 dX2_told_81 1 rfl rfl ?_
  exact r_iret 84 dX2_told_84 rfl rfl (Nat.le_of_ble_eq_true rfl) (Nat.le_of_ble_eq_true rfl) (jd rfl)
set_option maxRecDepth 100000 in
set_option maxHeartbeats 400000 in
theorem h_told5 {G : jG} {d : Nat} {x q t ai b pa ql qh : Nat} {sg : Int32} {ov : Value} {S : qS} : Ct G yX2_told cX2_told 2 (some .int) (d + 3) 0 0 [.ref x, .int 5] (hX x q t ai b pa sg ov :: (wS G q ql qh (S))) (jD (some (.int (nI (sO S)))) (hX x q t ai b pa sg ov :: (wS G q ql qh (S)))) := by
  refine ct_of (by decide) (Nat.le_of_ble_eq_true rfl) (own := RX2) (nm := "told") rfl rfl (lv := [some (.ref x), some (.int 5)]) rfl ?_
  refine r_iload_n 0 dX2_told_0 rfl ?_
  refine r_tableIn 1 85 dX2_told_1 (by decide) (by decide) rfl (by decide) ?_
  refine r_aload_n 85 dX2_told_85 rfl ?_
  refine r_get 86 f_X2_10 dX2_told_86 0 rfl rfl ?_
  refine r_get 89 f_X2_93 dX2_told_89 1 rfl rfl ?_
  exact r_iret 92 dX2_told_92 rfl rfl (Nat.le_of_ble_eq_true rfl) (Nat.le_of_ble_eq_true rfl) (jd rfl)
set_option maxRecDepth 100000 in
set_option maxHeartbeats 400000 in
theorem h_told6 {G : jG} {d : Nat} {x q t ai b pa ql qh : Nat} {sg : Int32} {ov : Value} {S : qS} : Ct G yX2_told cX2_told 2 (some .int) (d + 3) 0 0 [.ref x, .int 6] (hX x q t ai b pa sg ov :: (wS G q ql qh (S))) (jD (some (.int (nI (sN S)))) (hX x q t ai b pa sg ov :: (wS G q ql qh (S)))) := by
  refine ct_of (by decide) (Nat.le_of_ble_eq_true rfl) (own := RX2) (nm := "told") rfl rfl (lv := [some (.ref x), some (.int 6)]) rfl ?_
  refine r_iload_n 0 dX2_told_0 rfl ?_
  refine r_tableIn 1 93 dX2_told_1 (by decide) (by decide) rfl (by decide) ?_
  refine r_aload_n 93 dX2_told_93 rfl ?_
  refine r_get 94 f_X2_10 dX2_told_94 0 rfl rfl ?_
  refine r_get 97 f_X2_96 dX2_told_97 1 rfl rfl ?_
  exact r_iret 100 dX2_told_100 rfl rfl (Nat.le_of_ble_eq_true rfl) (Nat.le_of_ble_eq_true rfl) (jd rfl)
set_option maxRecDepth 100000 in
set_option maxHeartbeats 400000 in
theorem h_told7 {G : jG} {d : Nat} {x q t ai b pa ql qh : Nat} {sg : Int32} {ov : Value} {S : qS} : Ct G yX2_told cX2_told 2 (some .int) (d + 3) 0 0 [.ref x, .int 7] (hX x q t ai b pa sg ov :: (wS G q ql qh (S))) (jD (some (.int (nI (csN S)))) (hX x q t ai b pa sg ov :: (wS G q ql qh (S)))) := by
  refine ct_of (by decide) (Nat.le_of_ble_eq_true rfl) (own := RX2) (nm := "told") rfl rfl (lv := [some (.ref x), some (.int 7)]) rfl ?_
  refine r_iload_n 0 dX2_told_0 rfl ?_
  refine r_tableIn 1 101 dX2_told_1 (by decide) (by decide) rfl (by decide) ?_
  refine r_aload_n 101 dX2_told_101 rfl ?_
  refine r_get 102 f_X2_10 dX2_told_102 0 rfl rfl ?_
  refine r_callVD (ws2 := [_, _, _, _]) (wr := [_]) 105 s_X2_162 dX2_told_105 (c_X1_countSewn) rfl rfl 0 rfl rfl rfl [1, 2, 3] [0] rfl rfl rfl rfl (by decide) jRm_ok (Nat.le_of_ble_eq_true rfl) ⟨(Nat.le_of_ble_eq_true rfl), (Nat.le_of_ble_eq_true rfl)⟩ [0, 1, 2, 3] rfl rfl ?_
  exact r_iret 108 dX2_told_108 rfl rfl (Nat.le_of_ble_eq_true rfl) (Nat.le_of_ble_eq_true rfl) (jd rfl)
set_option maxRecDepth 100000 in
set_option maxHeartbeats 400000 in
theorem h_toldX {G : jG} {d : Nat} {x q t ai b pa ql qh : Nat} {sg : Int32} {ov : Value} {S : qS} {u : Int32} (h : ¬ (0 ≤ u ∧ u ≤ 7)) : Ct G yX2_told cX2_told 2 (some .int) (d + 3) 0 0 [.ref x, .int u] (hX x q t ai b pa sg ov :: (wS G q ql qh (S))) (jD (some (.int (-2))) (hX x q t ai b pa sg ov :: (wS G q ql qh (S)))) := by
  refine ct_of (by decide) (Nat.le_of_ble_eq_true rfl) (own := RX2) (nm := "told") rfl rfl (lv := [some (.ref x), some (.int u)]) rfl ?_
  refine r_iload_n 0 dX2_told_0 rfl ?_
  refine r_tableOut 1 109 dX2_told_1 (told_x h) (by decide) ?_
  refine r_bipush (v := -2) 109 dX2_told_109 (by decide) ?_
  exact r_iret 111 dX2_told_111 rfl rfl (Nat.le_of_ble_eq_true rfl) (Nat.le_of_ble_eq_true rfl) (jd rfl)
