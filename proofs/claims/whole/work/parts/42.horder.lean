theorem vpL_eq {f : Nat → Int64} {k : Nat} {x : Int64} : vp_updL f k x k = x := if_pos rfl
theorem fl_s {f : Nat → Int64} {k : Nat} {v : Int64} (h : ∀ j, j < k → f j = v) (j : Nat) (hj : j < k + 1) : vp_updL f k v j = v := by
  by_cases e : j = k
  · rw [e]
    exact updL_eq
  · rw [updL_ne e]
    exact h j (by omega)
theorem shl_2 : ∀ p, p < 17 → (1 : Int32) <<< (nI p &&& 31) = nI (2 ^ p) := by decide
theorem min_16 {n : Nat} (h : n ≤ 16) : (if (16 : Int32) < nI n then 16 else nI n) = nI n := if_neg (Int32.not_lt.mpr (nI_le (b := 16) h (by decide)))
theorem pw_16 {p : Nat} (h : p ≤ 16) : 2 ^ p ≤ 65536 := Nat.pow_le_pow_right (n := 2) (by decide) h
set_option maxRecDepth 100000 in
set_option maxHeartbeats 400000 in
theorem lp_fillL {G : jG} {d : Nat} {a N : Nat} (hN : N < 2 ^ 31) {v : Int64} : ∀ (n : Nat) (k : Nat) (f : Nat → Int64), N + 1 ≤ k + n → k ≤ N → (∀ j, j < k → f j = v) → Rn G RJ7 "fill" cJ7_fill_d0a16 5 none (jR (d + 1) 0 0) jX0 (jE G (fun r w => r = none ∧ ∃ f2 : Nat → Int64, (∀ j, j < N → f2 j = v) ∧ w = [(a, .inl (G.2.2.2.1, N, .inr (.inl (f2))))]) 0 0) 0 0 6 [some (.ref a), some (.long v), none, some (.int (nI k)), some (.int (nI N))] [] [(a, .inl (G.2.2.2.1, N, .inr (.inl (f))))] := by
  intro n
  induction n with
  | zero => intros; omega
  | succ n ih =>
    intro k f h1 h2 hF
    refine r_iload_n 6 dJ7_fill_d0a16_6 rfl ?_
    refine r_iload 7 dJ7_fill_d0a16_7 rfl ?_
    refine r_icmp_geN 9 22 dJ7_fill_d0a16_9 (by decide) (by omega) hN (fun c_9 => ?_) (fun c_9 => ?_)
    · -- 9T
      obtain rfl : k = N := by omega
      exact r_ret 22 dJ7_fill_d0a16_22 rfl (Nat.le_of_ble_eq_true rfl) (Nat.le_of_ble_eq_true rfl) (⟨rfl, f, hF, rfl⟩)
    · -- 9F
      refine r_aload_n 12 dJ7_fill_d0a16_12 rfl ?_
      refine r_iload_n 13 dJ7_fill_d0a16_13 rfl ?_
      refine r_lload_n 14 dJ7_fill_d0a16_14 rfl ?_
      refine r_lastore (ws2 := [(_, .inl (_, _, .inr (.inl _)))]) 15 dJ7_fill_d0a16_15 0 rfl (vp_in_nI (by omega) hN) (nI_clamp (by omega)) rfl ?_
      refine r_iinc (lv2 := [_, _, none, _, _]) 16 dJ7_fill_d0a16_16 rfl (jinc) (by decide) rfl rfl ?_
      refine r_goto 19 6 dJ7_fill_d0a16_19 (by decide) ?_
      exact ih (k + 1) _ (by omega) (by omega) (fl_s hF)
set_option maxRecDepth 100000 in
set_option maxHeartbeats 400000 in
theorem c_fillL {G : jG} {d : Nat} {a N : Nat} (hN : N < 2 ^ 31) {v : Int64} {f : Nat → Int64} : Ct G yJ7_fill_d0a16 cJ7_fill_d0a16 5 none (d + 1) 0 0 [.ref a, .long v] [(a, .inl (G.2.2.2.1, N, .inr (.inl (f))))] (fun r w => r = none ∧ ∃ f2 : Nat → Int64, (∀ j, j < N → f2 j = v) ∧ w = [(a, .inl (G.2.2.2.1, N, .inr (.inl (f2))))]) := by
  refine ct_of (by decide) (Nat.le_of_ble_eq_true rfl) (own := RJ7) (nm := "fill") rfl rfl (lv := [some (.ref a), some (.long v), none, none, none]) rfl ?_
  refine r_iconst (v := 0) 0 dJ7_fill_d0a16_0 (by decide) ?_
  refine r_ti (y := nI 0) (nI_0.symm) ?_
  refine r_istore_n (lv2 := [_, _, none, _, none]) 1 dJ7_fill_d0a16_1 (by decide) rfl rfl ?_
  refine r_aload_n 2 dJ7_fill_d0a16_2 rfl ?_
  refine r_alen 3 dJ7_fill_d0a16_3 0 1 rfl rfl rfl ?_
  refine r_ti (y := nI N) (rfl) ?_
  refine r_istore (lv2 := [_, _, none, _, _]) 4 dJ7_fill_d0a16_4 (by decide) rfl rfl ?_
  exact lp_fillL hN (N + 1) 0 f (by omega) (by omega) (fun j h => absurd h (Nat.not_lt_zero j))
set_option maxRecDepth 100000 in
set_option maxHeartbeats 400000 in
theorem h_clrS {G : jG} {d : Nat} {x q t ai b pa ql qh : Nat} {sg : Int32} {S : qS} (hS : wf S) {oa n : Nat} (hn : n < 2 ^ 31) (h : 2 ^ sP S ≤ n) {f : Nat → Int64} : Ct G yX2_clearedOrders cX2_clearedOrders 3 (some (.array .long)) (d + 2) 0 0 [.ref x] ((hX x q t ai b pa sg (.ref oa) :: (wS G q ql qh (S))) ++ [(oa, .inl (G.2.2.2.1, n, .inr (.inl (f))))]) (fun v w => v = some (.ref oa) ∧ ∃ f2 : Nat → Int64, (∀ j, j < n → f2 j = 0) ∧ w = ((hX x q t ai b pa sg (.ref oa) :: (wS G q ql qh (S))) ++ [(oa, .inl (G.2.2.2.1, n, .inr (.inl (f2))))])) := by
  refine ct_of (by decide) (Nat.le_of_ble_eq_true rfl) (own := RX2) (nm := "clearedOrders") rfl rfl (lv := [some (.ref x), none, none]) rfl ?_
  have hpw := pw_16 hS.p16
  refine r_iconst (v := 1) 0 dX2_clearedOrders_0 (by decide) ?_
  refine r_aload_n 1 dX2_clearedOrders_1 rfl ?_
  refine r_get 2 f_X2_10 dX2_clearedOrders_2 0 rfl rfl ?_
  refine r_callVD (ws2 := [_, _, _, _, _]) (wr := [_, _]) 5 s_X2_50 dX2_clearedOrders_5 (q_places) rfl rfl 0 rfl rfl rfl [1, 2, 3] [0, 4] rfl rfl rfl rfl (by decide) jRm_ok (Nat.le_of_ble_eq_true rfl) ⟨(Nat.le_of_ble_eq_true rfl), (Nat.le_of_ble_eq_true rfl)⟩ [0, 2, 3, 4, 1] rfl rfl ?_
  refine r_bipush (v := 16) 8 dX2_clearedOrders_8 (by decide) ?_
  refine r_mmin 10 s_X2_150 dX2_clearedOrders_10 ⟨by show 1 ≤ d + 2; omega, by show 1 + 13 ≤ 40 * (d + 2); omega⟩ ⟨Nat.le_of_ble_eq_true rfl, Nat.le_of_ble_eq_true rfl⟩ ?_
  refine r_ti (y := nI (sP S)) (min_16 hS.p16) ?_
  refine r_ishl 13 dX2_clearedOrders_13 ?_
  refine r_ti (y := nI (2 ^ sP S)) (shl_2 _ (Nat.lt_succ_of_le hS.p16)) ?_
  refine r_istore_n (lv2 := [_, _, none]) 14 dX2_clearedOrders_14 (by decide) rfl rfl ?_
  refine r_aload_n 15 dX2_clearedOrders_15 rfl ?_
  refine r_get 16 f_X2_38 dX2_clearedOrders_16 0 rfl rfl ?_
  refine r_astore_n (lv2 := [_, _, _]) 19 dX2_clearedOrders_19 (by decide) rfl rfl ?_
  refine r_aload_n 20 dX2_clearedOrders_20 rfl ?_
  refine r_ifnull 21 dX2_clearedOrders_21 ?_
  refine r_aload_n 24 dX2_clearedOrders_24 rfl ?_
  refine r_alen 25 dX2_clearedOrders_25 4 1 rfl rfl rfl ?_
  refine r_ti (y := nI n) (rfl) ?_
  refine r_iload_n 26 dX2_clearedOrders_26 rfl ?_
  refine r_icmp_geN 27 42 dX2_clearedOrders_27 (by decide) (by omega) (by omega) (fun c_27 => ?_) (fun c_27 => ?_)
  · -- 27T
    refine r_aload_n 42 dX2_clearedOrders_42 rfl ?_
    refine r_lconst (v := 0) 43 dX2_clearedOrders_43 (by decide) ?_
    refine r_callS (wr := [_, _, _, _]) 44 s_X2_219 dX2_clearedOrders_44 (c_fillL hn) rfl rfl [4] [0, 1, 2, 3] rfl rfl rfl rfl (by decide) jRm_ok (Nat.le_of_ble_eq_true rfl) ⟨(Nat.le_of_ble_eq_true rfl), (Nat.le_of_ble_eq_true rfl)⟩ (fun v w1 hq => ?_)
    obtain ⟨rfl, f2, hF, rfl⟩ := hq
    refine r_aload_n 47 dX2_clearedOrders_47 rfl ?_
    exact r_aret 48 dX2_clearedOrders_48 rfl (Or.inr ⟨_, rfl⟩) (Nat.le_of_ble_eq_true rfl) (Nat.le_of_ble_eq_true rfl) (⟨rfl, f2, hF, rfl⟩)
  · -- 27F
    exact absurd c_27 (Nat.not_lt.mpr h)
set_option maxRecDepth 100000 in
set_option maxHeartbeats 400000 in
theorem h_clrN {G : jG} {d : Nat} {x q t ai b pa ql qh : Nat} {sg : Int32} {S : qS} (hS : wf S) : Ct G yX2_clearedOrders cX2_clearedOrders 3 (some (.array .long)) (d + 2) 1 (2 ^ sP S) [.ref x] (hX x q t ai b pa sg (.null) :: (wS G q ql qh (S))) (fun v w => ∃ o2 : Nat, v = some (.ref o2) ∧ w = ((hX x q t ai b pa sg (.ref o2) :: (wS G q ql qh (S))) ++ [(o2, .inl (G.2.2.2.1, (2 ^ sP S), .inr (.inl (fun _ => 0))))])) := by
  refine ct_of (by decide) (Nat.le_of_ble_eq_true rfl) (own := RX2) (nm := "clearedOrders") rfl rfl (lv := [some (.ref x), none, none]) rfl ?_
  have hpw := pw_16 hS.p16
  refine r_iconst (v := 1) 0 dX2_clearedOrders_0 (by decide) ?_
  refine r_aload_n 1 dX2_clearedOrders_1 rfl ?_
  refine r_get 2 f_X2_10 dX2_clearedOrders_2 0 rfl rfl ?_
  refine r_callVD (ws2 := [_, _, _, _]) (wr := [_]) 5 s_X2_50 dX2_clearedOrders_5 (q_places) rfl rfl 0 rfl rfl rfl [1, 2, 3] [0] rfl rfl rfl rfl (by decide) jRm_ok (Nat.le_of_ble_eq_true rfl) ⟨(Nat.le_of_ble_eq_true rfl), (Nat.le_of_ble_eq_true rfl)⟩ [0, 1, 2, 3] rfl rfl ?_
  refine r_bipush (v := 16) 8 dX2_clearedOrders_8 (by decide) ?_
  refine r_mmin 10 s_X2_150 dX2_clearedOrders_10 ⟨by show 1 ≤ d + 2; omega, by show 1 + 13 ≤ 40 * (d + 2); omega⟩ ⟨Nat.le_of_ble_eq_true rfl, Nat.le_of_ble_eq_true rfl⟩ ?_
  refine r_ti (y := nI (sP S)) (min_16 hS.p16) ?_
  refine r_ishl 13 dX2_clearedOrders_13 ?_
  refine r_ti (y := nI (2 ^ sP S)) (shl_2 _ (Nat.lt_succ_of_le hS.p16)) ?_
  refine r_istore_n (lv2 := [_, _, none]) 14 dX2_clearedOrders_14 (by decide) rfl rfl ?_
  refine r_aload_n 15 dX2_clearedOrders_15 rfl ?_
  refine r_get 16 f_X2_38 dX2_clearedOrders_16 0 rfl rfl ?_
  refine r_astoreN_n (lv2 := [_, _, _]) 19 dX2_clearedOrders_19 (by decide) rfl rfl ?_
  refine r_aload_nN 20 dX2_clearedOrders_20 rfl ?_
  refine r_ifnullN 21 30 dX2_clearedOrders_21 (by decide) ?_
  refine r_iload_n 30 dX2_clearedOrders_30 rfl ?_
  refine r_newarray_long 31 ac_long dX2_clearedOrders_31 (Int32.not_lt.mpr (nI_pos' (by omega))) (nI_clamp (by omega)) (show 2 ^ sP S * 8 ≤ 536870912 by omega) ⟨Nat.le_of_ble_eq_true rfl, by show 0 + 2 ^ sP S ≤ 2 ^ sP S; omega⟩ (fun o2 => ?_)
  refine r_astore_n (lv2 := [_, _, _]) 33 dX2_clearedOrders_33 (by decide) rfl rfl ?_
  refine r_aload_n 34 dX2_clearedOrders_34 rfl ?_
  refine r_aload_n 35 dX2_clearedOrders_35 rfl ?_
  refine r_put (ws2 := [(_, .inr (_, [_, _, _, _, _, _, _])), _, _, _, _]) 36 p_X2_38 dX2_clearedOrders_36 0 rfl rfl rfl (Nat.le_of_ble_eq_true rfl) rfl ?_
  refine r_goto 39 47 dX2_clearedOrders_39 (by decide) ?_
  refine r_aload_n 47 dX2_clearedOrders_47 rfl ?_
  exact r_aret 48 dX2_clearedOrders_48 rfl (Or.inr ⟨_, rfl⟩) (Nat.le_of_ble_eq_true rfl) (Nat.le_of_eq (Nat.zero_add _)) (⟨o2, rfl, rfl⟩)
set_option maxRecDepth 100000 in
set_option maxHeartbeats 400000 in
theorem h_clrG {G : jG} {d : Nat} {x q t ai b pa ql qh : Nat} {sg : Int32} {S : qS} (hS : wf S) {oa n : Nat} (h : n < 2 ^ sP S) {f : Nat → Int64} : Ct G yX2_clearedOrders cX2_clearedOrders 3 (some (.array .long)) (d + 2) 1 (2 ^ sP S) [.ref x] ((hX x q t ai b pa sg (.ref oa) :: (wS G q ql qh (S))) ++ [(oa, .inl (G.2.2.2.1, n, .inr (.inl (f))))]) (fun v w => ∃ o2 : Nat, v = some (.ref o2) ∧ w = ((hX x q t ai b pa sg (.ref o2) :: (wS G q ql qh (S))) ++ [(o2, .inl (G.2.2.2.1, (2 ^ sP S), .inr (.inl (fun _ => 0))))])) := by
  refine ct_of (by decide) (Nat.le_of_ble_eq_true rfl) (own := RX2) (nm := "clearedOrders") rfl rfl (lv := [some (.ref x), none, none]) rfl ?_
  have hpw := pw_16 hS.p16
  refine r_iconst (v := 1) 0 dX2_clearedOrders_0 (by decide) ?_
  refine r_aload_n 1 dX2_clearedOrders_1 rfl ?_
  refine r_get 2 f_X2_10 dX2_clearedOrders_2 0 rfl rfl ?_
  refine r_callVD (ws2 := [_, _, _, _, _]) (wr := [_, _]) 5 s_X2_50 dX2_clearedOrders_5 (q_places) rfl rfl 0 rfl rfl rfl [1, 2, 3] [0, 4] rfl rfl rfl rfl (by decide) jRm_ok (Nat.le_of_ble_eq_true rfl) ⟨(Nat.le_of_ble_eq_true rfl), (Nat.le_of_ble_eq_true rfl)⟩ [0, 2, 3, 4, 1] rfl rfl ?_
  refine r_bipush (v := 16) 8 dX2_clearedOrders_8 (by decide) ?_
  refine r_mmin 10 s_X2_150 dX2_clearedOrders_10 ⟨by show 1 ≤ d + 2; omega, by show 1 + 13 ≤ 40 * (d + 2); omega⟩ ⟨Nat.le_of_ble_eq_true rfl, Nat.le_of_ble_eq_true rfl⟩ ?_
  refine r_ti (y := nI (sP S)) (min_16 hS.p16) ?_
  refine r_ishl 13 dX2_clearedOrders_13 ?_
  refine r_ti (y := nI (2 ^ sP S)) (shl_2 _ (Nat.lt_succ_of_le hS.p16)) ?_
  refine r_istore_n (lv2 := [_, _, none]) 14 dX2_clearedOrders_14 (by decide) rfl rfl ?_
  refine r_aload_n 15 dX2_clearedOrders_15 rfl ?_
  refine r_get 16 f_X2_38 dX2_clearedOrders_16 0 rfl rfl ?_
  refine r_astore_n (lv2 := [_, _, _]) 19 dX2_clearedOrders_19 (by decide) rfl rfl ?_
  refine r_aload_n 20 dX2_clearedOrders_20 rfl ?_
  refine r_ifnull 21 dX2_clearedOrders_21 ?_
  refine r_aload_n 24 dX2_clearedOrders_24 rfl ?_
  refine r_alen 25 dX2_clearedOrders_25 4 1 rfl rfl rfl ?_
  refine r_ti (y := nI n) (rfl) ?_
  refine r_iload_n 26 dX2_clearedOrders_26 rfl ?_
  refine r_icmp_geN 27 42 dX2_clearedOrders_27 (by decide) (by omega) (by omega) (fun c_27 => ?_) (fun c_27 => ?_)
  · -- 27T
    exact absurd c_27 (Nat.not_le.mpr h)
  · -- 27F
    refine r_iload_n 30 dX2_clearedOrders_30 rfl ?_
    refine r_newarray_long 31 ac_long dX2_clearedOrders_31 (Int32.not_lt.mpr (nI_pos' (by omega))) (nI_clamp (by omega)) (show 2 ^ sP S * 8 ≤ 536870912 by omega) ⟨Nat.le_of_ble_eq_true rfl, by show 0 + 2 ^ sP S ≤ 2 ^ sP S; omega⟩ (fun o2 => ?_)
    refine r_astore_n (lv2 := [_, _, _]) 33 dX2_clearedOrders_33 (by decide) rfl rfl ?_
    refine r_aload_n 34 dX2_clearedOrders_34 rfl ?_
    refine r_aload_n 35 dX2_clearedOrders_35 rfl ?_
    refine r_put (ws2 := [(_, .inr (_, [_, _, _, _, _, _, _])), _, _, _, _, _]) 36 p_X2_38 dX2_clearedOrders_36 0 rfl rfl rfl (Nat.le_of_ble_eq_true rfl) rfl ?_
    refine r_goto 39 47 dX2_clearedOrders_39 (by decide) ?_
    refine r_aload_n 47 dX2_clearedOrders_47 rfl ?_
    refine r_sub (ws2 := [_, _, _, _, _]) [0, 1, 2, 3, 5] rfl rfl ?_
    exact r_aret 48 dX2_clearedOrders_48 rfl (Or.inr ⟨_, rfl⟩) (Nat.le_of_ble_eq_true rfl) (Nat.le_of_eq (Nat.zero_add _)) (⟨o2, rfl, rfl⟩)
