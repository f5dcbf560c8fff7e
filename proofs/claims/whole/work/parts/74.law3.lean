theorem le_of_gt {L i : Nat} (hL : L ≤ 3072) (hi : i ≤ L) (h : ¬ nI L - 6 < nI i) : i + 6 ≤ L := by
  refine Classical.byContradiction (fun z => h ?_)
  by_cases h6 : 6 ≤ L
  · rw [show nI L - 6 = nI (L - 6) from pk_sub (b := 6) h6]
    exact nI_lt (by omega) (by omega)
  · have h0 : nI L - 6 < 0 := by
      rcases (by omega : L = 0 ∨ L = 1 ∨ L = 2 ∨ L = 3 ∨ L = 4 ∨ L = 5) with rfl | rfl | rfl | rfl | rfl | rfl <;> decide
    have h1 : (0 : Int32) ≤ nI i := nI_pos' (by omega)
    exact Int32.lt_of_lt_of_le h0 h1
theorem six (i : Nat) : nI i + Int32.ofInt 6 = nI (i + 6) := nI_add i 6
set_option maxRecDepth 100000 in
set_option maxHeartbeats 400000 in
theorem law_loop {G : jG} {b0 L : Nat} {xs : Nat → Int32} {nm : String} {x q ql qh t tl th ai b bw bs pa m : Nat} {A : Nat → Nat} (hL : L ≤ 3072) : ∀ (n i cl sl : Nat) (Ws : List va_W), L + 6 ≤ i + n → i ≤ L → LIv G x q ql qh t tl th ai b bw bs pa m A i cl sl Ws → Rn G RL nm code 4 ret room_1 (lwX b0 L xs) lwE cl sl 18 [some (.ref b0), some (.ref x), some (.ref m), some (.int (nI i))] [] (Ws).flatten := by
  intro n
  induction n with
  | zero => intro i cl sl Ws h1 h2; omega
  | succ n ih =>
    intro i cl sl Ws h1 h2 hI
    obtain ⟨S, T, k, pd, ov, f, I0, I1, OR, bi, bt, bwf, bsf, se, tz, ka, iw, g4, g5, g6, g7, g8, g9, ga, gb, kp, ik, rfl, hS, hpd, hI0, hI1, hO, hcl⟩ := hI
    have hsl := orR_le hO (by omega)
    refine r_iload_n 18 dL_law_18 rfl ?_
    refine r_aload_n 19 dL_law_19 rfl ?_
    refine r_slen 20 dL_law_20 ?_
    refine r_bipush (v := 6) 21 dL_law_21 (by decide) ?_
    refine r_isub 23 dL_law_23 ?_
    refine r_icmp_gt 24 927 dL_law_24 (by decide) (fun c_24 => ?_) (fun c_24 => ?_)
    · refine r_iconst (v := 1) 927 dL_law_927 (by decide) ?_
      exact r_lawret 928 dL_law_928 (by omega) (by omega)
    · have hi := le_of_gt hL h2 c_24
      have K : ∀ (cl2 sl2 : Nat) (Ws2 : List va_W), LIv G x q ql qh t tl th ai b bw bs pa m A (i + 6) cl2 sl2 Ws2 → Rn G RL nm code 4 ret room_1 (lwX b0 L xs) lwE cl2 sl2 921 [some (.ref b0), some (.ref x), some (.ref m), some (.int (nI i))] [] (Ws2).flatten := by
        intro cl2 sl2 Ws2 hI2
        refine r_iinc (v := nI (i + 6)) (lv2 := [_, _, _, _]) 921 dL_law_921 rfl (six i) (by decide) rfl rfl ?_
        refine r_goto 924 18 dL_law_924 (by decide) ?_
        exact ih (i + 6) cl2 sl2 Ws2 (by omega) hi hI2
      refine r_aload_n 27 dL_law_27 rfl ?_
      refine r_iload_n 28 dL_law_28 rfl ?_
      refine r_sld 29 dL_law_29 (by omega) hL rfl ?_
      refine r_bipush (v := 31) 30 dL_law_30 (by decide) ?_
      refine r_iand 32 dL_law_32 ?_
      obtain ⟨j, hj, ej⟩ := pk_andE (xs i) (m := 31) 5 (by decide)
      refine r_ti (y := nI j) ej ?_
      have hj32 : j < 32 := hj
      rcases (by omega : j = 0 ∨ j = 1 ∨ j = 2 ∨ j = 3 ∨ j = 4 ∨ j = 5 ∨ j = 6 ∨ j = 7 ∨ j = 8 ∨ j = 9 ∨ j = 10 ∨ j = 11 ∨ j = 12 ∨ j = 13 ∨ j = 14 ∨ j = 15 ∨ j = 16 ∨ j = 17 ∨ j = 18 ∨ j = 19 ∨ j = 20 ∨ j = 21 ∨ j = 22 ∨ j = 23 ∨ j = 24 ∨ j = 25 ∨ j = 26 ∨ j = 27 ∨ 28 ≤ j) with rfl | rfl | rfl | rfl | rfl | rfl | rfl | rfl | rfl | rfl | rfl | rfl | rfl | rfl | rfl | rfl | rfl | rfl | rfl | rfl | rfl | rfl | rfl | rfl | rfl | rfl | rfl | rfl | hj28
      · refine r_tableIn 33 160 dL_law_33 (by decide) (by decide) rfl (by decide) ?_
        exact law_0 hS hpd hI0 hI1 hO hcl hi hL rfl rfl K
      · refine r_tableIn 33 193 dL_law_33 (by decide) (by decide) rfl (by decide) ?_
        exact law_1 hS hpd hI0 hI1 hO hcl hi hL rfl K
      · refine r_tableIn 33 216 dL_law_33 (by decide) (by decide) rfl (by decide) ?_
        exact law_2 hS hpd hI0 hI1 hO hcl hi hL  K
      · refine r_tableIn 33 229 dL_law_33 (by decide) (by decide) rfl (by decide) ?_
        exact law_3 hS hpd hI0 hI1 hO hcl hi hL  K
      · refine r_tableIn 33 242 dL_law_33 (by decide) (by decide) rfl (by decide) ?_
        exact law_4 hS hpd hI0 hI1 hO hcl hi hL  K
      · refine r_tableIn 33 255 dL_law_33 (by decide) (by decide) rfl (by decide) ?_
        exact law_5 hS hpd hI0 hI1 hO hcl hi hL rfl K
      · refine r_tableIn 33 278 dL_law_33 (by decide) (by decide) rfl (by decide) ?_
        exact law_6 hS hpd hI0 hI1 hO hcl hi hL rfl rfl rfl K
      · refine r_tableIn 33 337 dL_law_33 (by decide) (by decide) rfl (by decide) ?_
        exact law_7 hS hpd hI0 hI1 hO hcl hi hL rfl rfl K
      · refine r_tableIn 33 370 dL_law_33 (by decide) (by decide) rfl (by decide) ?_
        exact law_8 hS hpd hI0 hI1 hO hcl hi hL rfl rfl K
      · refine r_tableIn 33 403 dL_law_33 (by decide) (by decide) rfl (by decide) ?_
        exact law_9 hS hpd hI0 hI1 hO hcl hi hL rfl rfl K
      · refine r_tableIn 33 436 dL_law_33 (by decide) (by decide) rfl (by decide) ?_
        exact law_10 hS hpd hI0 hI1 hO hcl hi hL rfl rfl K
      · refine r_tableIn 33 469 dL_law_33 (by decide) (by decide) rfl (by decide) ?_
        exact law_11 hS hpd hI0 hI1 hO hcl hi hL rfl K
      · refine r_tableIn 33 492 dL_law_33 (by decide) (by decide) rfl (by decide) ?_
        exact law_12 hS hpd hI0 hI1 hO hcl hi hL rfl K
      · refine r_tableIn 33 515 dL_law_33 (by decide) (by decide) rfl (by decide) ?_
        exact law_13 hS hpd hI0 hI1 hO hcl hi hL  K
      · refine r_tableIn 33 528 dL_law_33 (by decide) (by decide) rfl (by decide) ?_
        exact law_14 hS hpd hI0 hI1 hO hcl hi hL  K
      · refine r_tableIn 33 541 dL_law_33 (by decide) (by decide) rfl (by decide) ?_
        exact law_15 hS hpd hI0 hI1 hO hcl hi hL  K
      · refine r_tableIn 33 554 dL_law_33 (by decide) (by decide) rfl (by decide) ?_
        exact law_16 hS hpd hI0 hI1 hO hcl hi hL rfl K
      · refine r_tableIn 33 577 dL_law_33 (by decide) (by decide) rfl (by decide) ?_
        exact law_17 hS hpd hI0 hI1 hO hcl hi hL rfl rfl K
      · refine r_tableIn 33 610 dL_law_33 (by decide) (by decide) rfl (by decide) ?_
        exact law_18 hS hpd hI0 hI1 hO hcl hi hL rfl rfl K
      · refine r_tableIn 33 643 dL_law_33 (by decide) (by decide) rfl (by decide) ?_
        exact law_19 hS hpd hI0 hI1 hO hcl hi hL rfl rfl rfl rfl K
      · refine r_tableIn 33 696 dL_law_33 (by decide) (by decide) rfl (by decide) ?_
        exact law_20 hS hpd hI0 hI1 hO hcl hi hL rfl rfl rfl rfl rfl K
      · refine r_tableIn 33 759 dL_law_33 (by decide) (by decide) rfl (by decide) ?_
        exact law_21 hS hpd hI0 hI1 hO hcl hi hL  K
      · refine r_tableIn 33 773 dL_law_33 (by decide) (by decide) rfl (by decide) ?_
        exact law_22 hS hpd hI0 hI1 hO hcl hi hL rfl K
      · refine r_tableIn 33 796 dL_law_33 (by decide) (by decide) rfl (by decide) ?_
        exact law_23 hS hpd hI0 hI1 hO hcl hi hL  K
      · refine r_tableIn 33 809 dL_law_33 (by decide) (by decide) rfl (by decide) ?_
        exact law_24 hS hpd hI0 hI1 hO hcl hi hL rfl rfl rfl K
      · refine r_tableIn 33 852 dL_law_33 (by decide) (by decide) rfl (by decide) ?_
        exact law_25 hS hpd hI0 hI1 hO hcl hi hL rfl K
      · refine r_tableIn 33 875 dL_law_33 (by decide) (by decide) rfl (by decide) ?_
        exact law_26 hS hpd hI0 hI1 hO hcl hi hL rfl K
      · refine r_tableIn 33 898 dL_law_33 (by decide) (by decide) rfl (by decide) ?_
        exact law_27 hS hpd hI0 hI1 hO hcl hi hL rfl K
      · refine r_tableOut 33 921 dL_law_33 (Or.inr (by rw [nI_toInt (by omega)]; omega)) (by decide) ?_
        exact K _ _ _ ⟨S, T, k, pd, ov, f, I0, I1, OR, bi, bt, bwf, bsf, se, tz, ka, iw, g4, g5, g6, g7, g8, g9, ga, gb, kp, ik, rfl, hS, hpd, hI0, hI1, orR_up hO (by omega) (by omega), by omega⟩
set_option maxRecDepth 100000 in
set_option maxHeartbeats 400000 in
theorem law_all {G : jG} {b0 L : Nat} {xs : Nat → Int32} {nm : String} (hL : L ≤ 3072) : Rn G RL nm code 4 ret room_1 (lwX b0 L xs) lwE 0 0 0 [some (.ref b0), none, none, none] [] [] := by
  refine r_new 0 n_L_7 dL_law_0 ⟨(Nat.le_of_ble_eq_true rfl), (Nat.le_of_ble_eq_true rfl)⟩ (fun x => ?_)
  refine r_dup 3 dL_law_3 rfl ?_
  refine r_callI (wr := []) 4 s_L_9 dL_law_4 (h_init (d := 0) (x := x)) rfl rfl [0] [] rfl rfl rfl rfl (by decide) ⟨Nat.le_of_ble_eq_true rfl, Nat.le_of_ble_eq_true rfl⟩ (Nat.le_of_ble_eq_true rfl) ⟨(Nat.le_of_ble_eq_true rfl), (Nat.le_of_ble_eq_true rfl)⟩ (fun v9 w9 hq => ?_)
  obtain ⟨rfl, q, ql, qh, t, tl, th, ai, b, bw, bs, pa, rfl⟩ := hq
  refine r_astore_n (lv2 := [_, _, none, none]) 7 dL_law_7 (by decide) rfl rfl ?_
  refine r_new 8 n_L_10 dL_law_8 ⟨(Nat.le_of_ble_eq_true rfl), (Nat.le_of_ble_eq_true rfl)⟩ (fun m => ?_)
  refine r_dup 11 dL_law_11 rfl ?_
  refine r_callI (wr := [_, _, _, _, _, _, _, _, _, _, _, _]) 12 s_L_12 dL_law_12 (m_init (d := 0) (m := m)) rfl rfl [12] [0, 1, 2, 3, 4, 5, 6, 7, 8, 9, 10, 11] rfl rfl rfl rfl (by decide) ⟨Nat.le_of_ble_eq_true rfl, Nat.le_of_ble_eq_true rfl⟩ (Nat.le_of_ble_eq_true rfl) ⟨(Nat.le_of_ble_eq_true rfl), (Nat.le_of_ble_eq_true rfl)⟩ (fun v9 w9 hq => ?_)
  obtain ⟨rfl, A, rfl⟩ := hq
  refine r_astore_n (lv2 := [_, _, _, none]) 15 dL_law_15 (by decide) rfl rfl ?_
  refine r_iconst (v := 0) 16 dL_law_16 (by decide) ?_
  refine r_ti (y := nI 0) nI_0.symm ?_
  refine r_istore_n (lv2 := [_, _, _, _]) 17 dL_law_17 (by decide) rfl rfl ?_
  refine r_ws (ws2 := ([[hX x q t ai b pa (nI (0)) (.null)], wS G q ql qh (iS), wS G t tl th (jS), [(ai, .inl (G.2.2.2.2.2.2, 2, .inr (.inr (.inr (.inr (fun _ => none))))))], [(b, .inr (0, [.ref bw, .int (0), .ref bs, .int (0)])), (bw, .inl (G.2.2.1, 4, .inl (fun _ => 0))), (bs, .inl (G.2.2.1, 9, .inl (fun _ => 0)))], [(pa, .inl (G.2.2.2.2.1, 40, .inl (fun i => nI ((fun _ => 0) i))))], [], [], [], wX G m A (iS) (nI (0)) (0) (0) (0) (0), [(A 3, .inl (G.2.2.1, 40, .inl (fun i => nI ((fun _ => 0) i))))], [(A 4, .inl (G.2.2.1, 16, .inl (fun _ => 0)))], [(A 5, .inl (G.2.2.1, 16, .inl (fun _ => 0)))], [(A 6, .inl (G.2.2.1, 9, .inl (fun _ => 0)))], [(A 7, .inl (G.2.2.1, 9, .inl (fun _ => 0)))], [(A 8, .inl (G.2.2.1, 5, .inl (fun _ => 0)))], [(A 9, .inl (G.2.2.2.1, 65536, .inr (.inl (fun _ => 0))))], [(A 10, .inl (G.2.2.1, 16, .inl (fun _ => 0)))], [(A 11, .inl (G.2.2.1, 16, .inl (fun _ => 0)))], [(A 12, .inl (G.2.2.1, 120, .inl (fun _ => 0)))], [(A 13, .inl (G.2.2.2.2.2.1, 2, .inl (fun _ => 0)))]] : List va_W).flatten) rfl ?_
  refine law_loop hL (L + 6) 0 _ _ _ (by omega) (Nat.zero_le _) ⟨iS, jS, 0, fun _ => 0, .null, fun _ => none, [], [], [], 0, 0, fun _ => 0, fun _ => 0, 0, 0, 0, 0, fun _ => 0, fun _ => 0, fun _ => 0, fun _ => 0, fun _ => 0, fun _ => 0, fun _ => 0, fun _ => 0, fun _ => 0, fun _ => 0, rfl, wf_iS, ⟨Nat.zero_le _, fun j hj => absurd hj (Nat.not_lt_zero j)⟩, Or.inl ⟨rfl, rfl, rfl⟩, Or.inl ⟨rfl, rfl, rfl⟩, Or.inl ⟨rfl, rfl, (Nat.le_of_ble_eq_true rfl)⟩, (Nat.le_of_ble_eq_true rfl)⟩
